/-! ===== MY LAYER, 4: what an exact contract is told in ===== -/
theorem hq_rgB {cs : Nat → ClassId} {G : hq_G} {V : hp_V} {a R : Nat} {f : Nat → Int32} (h : hq_I cs G V) (ha : G a = some (1, R, 0, 0)) (e : V a = some (.inl (cs 0, R, .inl f))) : ∀ j, j < R → fits .byte (.int (f j)) = true := by
  obtain ⟨-, f', e', h'⟩ := hq_o1 h ha
  cases e.symm.trans e'
  exact h'
theorem hq_rg2 {cs : Nat → ClassId} {G : hq_G} {V : hp_V} {a N k g : Nat} {f : Nat → Int32} (h : hq_I cs G V) (ha : G a = some (2, g, N, k)) (e : V a = some (.inl (cs 1, N, .inl f))) : ∀ j, j < N → hq_ir (hq_lo k) (hq_hi k) (f j) := by
  obtain ⟨-, f', e', h'⟩ := hq_o2 h ha
  cases e.symm.trans e'
  exact h'
theorem hx_fb {v : Int32} (h : fits .byte (.int v) = true) : -128 ≤ v.toInt ∧ v.toInt ≤ 127 := by
  simp [fits] at h
  rw [Int32.le_iff_toInt_le, Int32.le_iff_toInt_le] at h
  exact h
theorem hx_and255 (y : Int32) (h : -128 ≤ y.toInt ∧ y.toInt ≤ 127) : (0 ≤ y.toInt ∧ (y &&& 255).toInt = y.toInt) ∨ (y.toInt < 0 ∧ 128 ≤ (y &&& 255).toInt ∧ (y &&& 255).toInt = y.toInt + 256) := by
  have h1 : (y &&& 255).toBitVec.toNat = y.toBitVec.toNat % 256 := by
    rw [Int32.toBitVec_and, BitVec.toNat_and]
    exact Nat.and_two_pow_sub_one_eq_mod _ 8
  have h2 : (y &&& 255).toInt = (y &&& 255).toBitVec.toInt := rfl
  have h3 : y.toInt = y.toBitVec.toInt := rfl
  have h4 := BitVec.toInt_eq_toNat_cond y.toBitVec
  have h5 := BitVec.toInt_eq_toNat_cond (y &&& 255).toBitVec
  have h6 := y.toBitVec.isLt
  rw [← h3] at h4
  rw [← h2] at h5
  split at h4 <;> split at h5 <;> omega
/-- a case told by a number -/
def hx_D (k A E : Prop) : Prop := (k ∧ A) ∨ (¬ k ∧ E)
theorem hx_D.pos {k A E : Prop} (h : hx_D k A E) (hk : k) : A := h.elim (fun g => g.2) (fun g => absurd hk g.1)
theorem hx_D.neg {k A E : Prop} (h : hx_D k A E) (hk : ¬ k) : E := h.elim (fun g => absurd g.1 hk) (fun g => g.2)
theorem hx_D.l {k A E : Prop} (hk : k) (h : A) : hx_D k A E := Or.inl ⟨hk, h⟩
theorem hx_D.r {k A E : Prop} (hk : ¬ k) (h : E) : hx_D k A E := Or.inr ⟨hk, h⟩
/-- the byte at a place: what 'at' answers -/
def hx_at (v r : Int) : Prop := (0 ≤ v ∧ r = v) ∨ (v < 0 ∧ 128 ≤ r ∧ r = v + 256)
/-- the tape at kb holds the text w -/
def hx_TP (cs : Nat → ClassId) (V : hp_V) (kb : Nat) (w : sp_W) : Prop := ∃ (z : Int32) (g : Nat → Int32), V kb = some (.inr (9, [.ref (kb + 1), .int z])) ∧ V (kb + 1) = some (.inl (cs 0, 4000, .inl g)) ∧ z.toInt = w.2 ∧ (0 ≤ w.2 ∧ w.2 ≤ 4000) ∧ (∀ k : Nat, (k : Int) < w.2 → (g k).toInt = w.1 k)
theorem hx_TP.keep {cs : Nat → ClassId} {V V' : hp_V} {kb : Nat} {w : sp_W} (h : hx_TP cs V kb w) (e0 : V' kb = V kb) (e1 : V' (kb + 1) = V (kb + 1)) : hx_TP cs V' kb w := by
  obtain ⟨z, g, h1, h2, h3⟩ := h
  exact ⟨z, g, e0.trans h1, e1.trans h2, h3⟩
theorem hx_TP.size {cs : Nat → ClassId} {V : hp_V} {kb : Nat} {w : sp_W} (h : hx_TP cs V kb w) : 0 ≤ w.2 ∧ w.2 ≤ 4000 := by
  obtain ⟨z, g, h1, h2, h3, h4, h5⟩ := h
  exact h4
theorem hx_gw {w : sp_W} {g : Nat → Int32} (h : ∀ k : Nat, (k : Int) < w.2 → (g k).toInt = w.1 k) {i : Int32} (h0 : 0 ≤ i.toInt) (h1 : i.toInt < w.2) : (g i.toNatClampNeg).toInt = w.1 i.toInt := by
  have e : (i.toNatClampNeg : Int) = i.toInt := by
    have : i.toNatClampNeg = i.toInt.toNat := rfl
    omega
  rw [h _ (by omega), e]
theorem hx_atw {w : sp_W} {g : Nat → Int32} {z i r : Int32} (hw : ∀ k : Nat, (k : Int) < w.2 → (g k).toInt = w.1 k) (hz : z.toInt = w.2) (h : hx_D (0 ≤ i.toInt ∧ i.toInt < z.toInt) (hx_at (g i.toNatClampNeg).toInt r.toInt) (r.toInt = -1)) : (0 ≤ i.toInt ∧ i.toInt < w.2 ∧ ((0 ≤ w.1 i.toInt ∧ r.toInt = w.1 i.toInt) ∨ (w.1 i.toInt < 0 ∧ 128 ≤ r.toInt ∧ r.toInt = w.1 i.toInt + 256))) ∨ (¬ (0 ≤ i.toInt ∧ i.toInt < w.2) ∧ r.toInt = -1) := by
  rw [hz] at h
  rcases h with ⟨h1, h2⟩ | ⟨h1, h2⟩
  · rw [hx_gw hw h1.1 h1.2] at h2
    exact Or.inl ⟨h1.1, h1.2, h2⟩
  · exact Or.inr ⟨h1, h2⟩
theorem hx_addn {k i y : Int32} (h : y.toInt = k.toInt + i.toInt) (h0 : 0 ≤ k.toInt) (h1 : 0 ≤ i.toInt) : k.toInt.toNat + i.toInt.toNat = y.toNatClampNeg := by
  have : y.toNatClampNeg = y.toInt.toNat := rfl
  omega
theorem hx_cp1 {f f2 : Nat → Int32} {k z y : Int32} {j : Nat} (h : (j : Int) < z.toInt) : va_cpy f2 f k.toNatClampNeg z.toNatClampNeg y.toNatClampNeg j = f j := by
  have : z.toNatClampNeg = z.toInt.toNat := rfl
  unfold va_cpy
  rw [if_neg (by omega)]
theorem hx_cp2 {f f2 : Nat → Int32} {k z y : Int32} {j : Nat} (hz : 0 ≤ z.toInt) (h : (j : Int) < y.toInt) : va_cpy f2 f k.toNatClampNeg z.toNatClampNeg y.toNatClampNeg (z.toInt.toNat + j) = f2 (k.toInt.toNat + j) := by
  have h1 : z.toNatClampNeg = z.toInt.toNat := rfl
  have h2 : y.toNatClampNeg = y.toInt.toNat := rfl
  have h3 : k.toNatClampNeg = k.toInt.toNat := rfl
  unfold va_cpy
  rw [if_pos (by omega), h1, h3, Nat.add_sub_cancel_left]
/-- the parser stands at token j -/
def hx_A (w : sp_W) (j : Nat) (st nx tk : Int32) : Prop := (0 ≤ sp_pos w j ∧ sp_pos w j ≤ w.2) ∧ st.toInt = sp_s w j ∧ nx.toInt = sp_e w j ∧ tk.toInt = sp_k w j
theorem hx_chk {k r : Int32} (hr : r = hs_ch 0 k) (h0 : 0 ≤ k.toInt) (h1 : k.toInt < 89) : sp_W89.drop k.toInt.toNat = r.toInt :: sp_W89.drop (k.toInt.toNat + 1) := by
  have h2 : ∀ q : Nat, q < 89 → sp_W89.drop q = (((hp_sb.getD 0 []).getD q 0) &&& 255).toInt :: sp_W89.drop (q + 1) := by decide +kernel
  rw [hr]
  exact h2 k.toInt.toNat (by omega)
theorem hx_chr {k r : Int32} (hr : r = hs_ch 0 k) (h0 : 0 ≤ k.toInt) (h1 : k.toInt < 89) : 0 ≤ r.toInt ∧ r.toInt ≤ 127 := by
  have h2 : ∀ q : Nat, q < 89 → 0 ≤ (((hp_sb.getD 0 []).getD q 0) &&& 255).toInt ∧ (((hp_sb.getD 0 []).getD q 0) &&& 255).toInt ≤ 127 := by decide +kernel
  rw [hr]
  exact h2 k.toInt.toNat (by omega)

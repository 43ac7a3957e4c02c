/-! ===== BITS OF A LONG: the lines that changed something ===== -/
def sp_bt (x : Int64) (c : Nat) : Prop := x.toBitVec.getLsbD c = true
theorem sp_sh : ∀ k, k < 60 → ((1 : Int64) <<< ((Int32.ofNat k).toInt64 &&& 63)).toBitVec = BitVec.twoPow 64 k := by decide +kernel
theorem sp_su : ∀ k, k < 60 → ((Int32.ofNat k).toInt64.toUInt64 &&& Int64.toUInt64 63).toNat = k := by decide +kernel
theorem sp_ofn {l : Int32} (h0 : 0 ≤ l.toInt) (h1 : l.toInt < 60) : l = Int32.ofNat l.toInt.toNat := by
  apply Int32.toInt_inj.mp
  rw [Int32.toInt_ofNat_of_lt (by omega)]
  omega
theorem sp_bt_0 (c : Nat) : ¬ sp_bt 0 c := by
  unfold sp_bt
  show ¬ (0#64).getLsbD c = true
  rw [BitVec.getLsbD_zero]
  decide
theorem sp_bt_or {x : Int64} {l : Int32} {c : Nat} (h0 : 0 ≤ l.toInt) (h1 : l.toInt < 60) : sp_bt (x ||| ((1 : Int64) <<< (l.toInt64 &&& 63))) c ↔ (sp_bt x c ∨ c = l.toInt.toNat) := by
  have e2 := sp_sh l.toInt.toNat (by omega)
  rw [← sp_ofn h0 h1] at e2
  unfold sp_bt
  rw [Int64.toBitVec_or, BitVec.getLsbD_or, e2, BitVec.getLsbD_twoPow]
  simp only [Bool.or_eq_true, Bool.and_eq_true, decide_eq_true_eq]
  constructor
  · rintro (h | ⟨-, h⟩)
    · exact Or.inl h
    · exact Or.inr h.symm
  · rintro (h | h)
    · exact Or.inl h
    · exact Or.inr ⟨by omega, h.symm⟩
theorem sp_bt_and {x : Int64} {a : Int32} (h0 : 0 ≤ a.toInt) (h1 : a.toInt < 60) : ((x.toUInt64 >>> (a.toInt64.toUInt64 &&& Int64.toUInt64 63)).toInt64 &&& 1) = 0 ↔ ¬ sp_bt x a.toInt.toNat := by
  have e2 := sp_su a.toInt.toNat (by omega)
  rw [← sp_ofn h0 h1] at e2
  rw [ts_bit (by omega) e2]
  unfold sp_bt
  cases x.toBitVec.getLsbD a.toInt.toNat <;> simp
/-! ===== THE RUN OF THE SOUNDS: the word ahead of line n ===== -/
def sp_pre (w : sp_W) (a b : Int) (ls : List sp_L) (u : List Int) : Nat → Option (List Int)
  | 0 => some u
  | n + 1 => match sp_pre w a b ls u n with
    | none => none
    | some v => match ls[n]? with
      | none => some v
      | some x => if x.1 = 2 ∧ ¬ (n : Int) = a ∧ ¬ (n : Int) = b then (if (sp_sx w x v).length ≤ 30 then some (sp_sx w x v) else none) else some v
section SPP
variable {w : sp_W} {a b : Int} {ls : List sp_L} {u : List Int} {n : Nat}
theorem sp_pre_0 : sp_pre w a b ls u 0 = some u := rfl
theorem sp_pre_no (h : sp_pre w a b ls u n = none) : sp_pre w a b ls u (n + 1) = none := by simp only [sp_pre]; rw [h]
theorem sp_pre_out {v : List Int} (h : sp_pre w a b ls u n = some v) (hn : ls[n]? = none) : sp_pre w a b ls u (n + 1) = some v := by simp only [sp_pre]; rw [h]; simp only; rw [hn]
theorem sp_pre_s {v : List Int} {x : sp_L} (h : sp_pre w a b ls u n = some v) (hx : ls[n]? = some x) (h2 : ¬ (x.1 = 2 ∧ ¬ (n : Int) = a ∧ ¬ (n : Int) = b)) : sp_pre w a b ls u (n + 1) = some v := by simp only [sp_pre]; rw [h]; simp only; rw [hx]; simp only; rw [if_neg h2]
theorem sp_pre_g {v : List Int} {x : sp_L} (h : sp_pre w a b ls u n = some v) (hx : ls[n]? = some x) (h2 : x.1 = 2 ∧ ¬ (n : Int) = a ∧ ¬ (n : Int) = b) (h3 : (sp_sx w x v).length ≤ 30) : sp_pre w a b ls u (n + 1) = some (sp_sx w x v) := by simp only [sp_pre]; rw [h]; simp only; rw [hx]; simp only; rw [if_pos h2, if_pos h3]
theorem sp_pre_b {v : List Int} {x : sp_L} (h : sp_pre w a b ls u n = some v) (hx : ls[n]? = some x) (h2 : x.1 = 2 ∧ ¬ (n : Int) = a ∧ ¬ (n : Int) = b) (h3 : ¬ (sp_sx w x v).length ≤ 30) : sp_pre w a b ls u (n + 1) = none := by simp only [sp_pre]; rw [h]; simp only; rw [hx]; simp only; rw [if_pos h2, if_neg h3]
theorem sp_pre_le (hu : u.length ≤ 30) : ∀ (n : Nat) (v : List Int), sp_pre w a b ls u n = some v → v.length ≤ 30 := by
  intro n
  induction n with
  | zero => intro v h; cases h; exact hu
  | succ n ih =>
    intro v h
    cases h1 : sp_pre w a b ls u n with
    | none => rw [sp_pre_no h1] at h; cases h
    | some v1 =>
      have h2 := ih v1 h1
      cases hx : ls[n]? with
      | none => rw [sp_pre_out h1 hx] at h; cases h; exact h2
      | some x =>
        by_cases c : x.1 = 2 ∧ ¬ (n : Int) = a ∧ ¬ (n : Int) = b
        · by_cases c2 : (sp_sx w x v1).length ≤ 30
          · rw [sp_pre_g h1 hx c c2] at h; cases h; exact c2
          · rw [sp_pre_b h1 hx c c2] at h; cases h
        · rw [sp_pre_s h1 hx c] at h; cases h; exact h2
/-- the whole run, from line n on -/
theorem sp_sa_pre : ∀ n : Nat, n ≤ ls.length → sp_sa w a b ls 0 u = match sp_pre w a b ls u n with | none => none | some v => sp_sa w a b (ls.drop n) n v := by
  intro n
  induction n with
  | zero => intro _; rfl
  | succ n ih =>
    intro hn
    rw [ih (by omega)]
    cases h1 : sp_pre w a b ls u n with
    | none => rw [sp_pre_no h1]
    | some v =>
      obtain ⟨x, hx⟩ : ∃ x, ls[n]? = some x := ⟨_, List.getElem?_eq_getElem (by omega)⟩
      simp only
      by_cases c : x.1 = 2 ∧ ¬ (n : Int) = a ∧ ¬ (n : Int) = b
      · by_cases c2 : (sp_sx w x v).length ≤ 30
        · rw [sp_pre_g h1 hx c c2, sp_sa_go hx c c2]; rfl
        · rw [sp_pre_b h1 hx c c2, sp_sa_none hx c c2]
      · rw [sp_pre_s h1 hx c, sp_sa_skip hx c]; rfl
theorem sp_sa_fin : sp_sa w a b ls 0 u = sp_pre w a b ls u ls.length := by
  rw [sp_sa_pre ls.length (Nat.le_refl _)]
  cases sp_pre w a b ls u ls.length with
  | none => rfl
  | some v => simp only; rw [sp_sa_end (Nat.le_refl _)]
end SPP
/-- line c changes nothing in this run -/
def sp_nc (w : sp_W) (a b : Int) (ls : List sp_L) (u : List Int) (c : Nat) : Prop := ∀ (v : List Int) (x : sp_L), sp_pre w a b ls u c = some v → ls[c]? = some x → x.1 = 2 → sp_sx w x v = v
/-- up to line n two runs leave out the same -/
theorem sp_pre_eq {w : sp_W} {a b a' b' : Int} {ls : List sp_L} {u : List Int} : ∀ n : Nat, (∀ i : Nat, i < n → (((i : Int) = a ∨ (i : Int) = b) ↔ ((i : Int) = a' ∨ (i : Int) = b'))) → sp_pre w a b ls u n = sp_pre w a' b' ls u n := by
  intro n
  induction n with
  | zero => intro _; rfl
  | succ n ih =>
    intro h
    have e := ih (fun i hi => h i (by omega))
    have hn := h n (by omega)
    cases h1 : sp_pre w a b ls u n with
    | none => rw [sp_pre_no h1, sp_pre_no (e ▸ h1)]
    | some v =>
      have h2 : sp_pre w a' b' ls u n = some v := by rw [← e]; exact h1
      cases hx : ls[n]? with
      | none => rw [sp_pre_out h1 hx, sp_pre_out h2 hx]
      | some x =>
        by_cases c : x.1 = 2 ∧ ¬ (n : Int) = a ∧ ¬ (n : Int) = b
        · have c' : x.1 = 2 ∧ ¬ (n : Int) = a' ∧ ¬ (n : Int) = b' := by omega
          by_cases c2 : (sp_sx w x v).length ≤ 30
          · rw [sp_pre_g h1 hx c c2, sp_pre_g h2 hx c' c2]
          · rw [sp_pre_b h1 hx c c2, sp_pre_b h2 hx c' c2]
        · have c' : ¬ (x.1 = 2 ∧ ¬ (n : Int) = a' ∧ ¬ (n : Int) = b') := by omega
          rw [sp_pre_s h1 hx c, sp_pre_s h2 hx c']
/-- a line that changes nothing may be left out as well -/
theorem sp_nc_eq {w : sp_W} {a b a' b' : Int} {ls : List sp_L} {u : List Int} {c : Nat} (hu : u.length ≤ 30) (hc : sp_nc w a b ls u c) (hs : ∀ i : Nat, i ≠ c → (((i : Int) = a ∨ (i : Int) = b) ↔ ((i : Int) = a' ∨ (i : Int) = b'))) (ho : (c : Int) = a' ∨ (c : Int) = b') : ∀ n : Nat, sp_pre w a b ls u n = sp_pre w a' b' ls u n := by
  intro n
  induction n with
  | zero => rfl
  | succ n ih =>
    cases h1 : sp_pre w a b ls u n with
    | none => rw [sp_pre_no h1, sp_pre_no (ih ▸ h1)]
    | some v =>
      have h2 : sp_pre w a' b' ls u n = some v := by rw [← ih]; exact h1
      have hl := sp_pre_le hu n v h1
      cases hx : ls[n]? with
      | none => rw [sp_pre_out h1 hx, sp_pre_out h2 hx]
      | some x =>
        by_cases e : n = c
        · subst e
          have c' : ¬ (x.1 = 2 ∧ ¬ (n : Int) = a' ∧ ¬ (n : Int) = b') := by omega
          rw [sp_pre_s h2 hx c']
          by_cases c1 : x.1 = 2 ∧ ¬ (n : Int) = a ∧ ¬ (n : Int) = b
          · have e1 := hc v x h1 hx c1.1
            rw [sp_pre_g h1 hx c1 (by rw [e1]; exact hl), e1]
          · rw [sp_pre_s h1 hx c1]
        · have hn := hs n e
          by_cases c1 : x.1 = 2 ∧ ¬ (n : Int) = a ∧ ¬ (n : Int) = b
          · have c' : x.1 = 2 ∧ ¬ (n : Int) = a' ∧ ¬ (n : Int) = b' := by omega
            by_cases c2 : (sp_sx w x v).length ≤ 30
            · rw [sp_pre_g h1 hx c1 c2, sp_pre_g h2 hx c' c2]
            · rw [sp_pre_b h1 hx c1 c2, sp_pre_b h2 hx c' c2]
          · have c' : ¬ (x.1 = 2 ∧ ¬ (n : Int) = a' ∧ ¬ (n : Int) = b') := by omega
            rw [sp_pre_s h1 hx c1, sp_pre_s h2 hx c']
section SPN
variable {w : sp_W} {ls : List sp_L} {u : List Int}
/-- a, alone: it changes nothing in the full run -/
theorem sp_nc1 {a : Nat} (hu : u.length ≤ 30) (h : sp_nc w (-1) (-1) ls u a) : sp_sa w a (-1) ls 0 u = sp_sa w (-1) (-1) ls 0 u := by
  rw [sp_sa_fin, sp_sa_fin]
  exact (sp_nc_eq hu h (fun i hi => by omega) (Or.inl rfl) _).symm
/-- a with a later b -/
theorem sp_nc2 {a b : Nat} (hu : u.length ≤ 30) (hab : a < b) (h : sp_nc w (-1) (-1) ls u a) : sp_sa w a b ls 0 u = sp_sa w b (-1) ls 0 u := by
  have h2 : sp_nc w b (-1) ls u a := by
    intro v x hv hx h2
    refine h v x ?_ hx h2
    rw [← hv]
    exact sp_pre_eq a (fun i hi => by omega)
  rw [sp_sa_fin, sp_sa_fin]
  exact (sp_nc_eq hu h2 (fun i hi => by omega) (Or.inl rfl) _).symm
/-- b changes nothing where a is left out -/
theorem sp_nc3 {a b : Nat} (hu : u.length ≤ 30) (h : sp_nc w a (-1) ls u b) : sp_sa w a b ls 0 u = sp_sa w a (-1) ls 0 u := by
  rw [sp_sa_fin, sp_sa_fin]
  exact (sp_nc_eq hu h (fun i hi => by omega) (Or.inr rfl) _).symm
end SPN
theorem sp_pre_mono {w : sp_W} {a b : Int} {ls : List sp_L} {u : List Int} {n : Nat} (h : sp_pre w a b ls u n = none) (d : Nat) : sp_pre w a b ls u (n + d) = none := by
  induction d with
  | zero => exact h
  | succ d ih => exact sp_pre_no ih
def sp_kd (ls : List sp_L) (i : Nat) : Int := (ls.getD i sp_ln0).1
theorem sp_kd_i {ls : List sp_L} {i : Nat} {x : sp_L} (h : ls[i]? = some x) : sp_kd ls i = x.1 := by unfold sp_kd; rw [sp_getD h]
/-- line c changes the word where a and b are left out -/
def sp_hd (w : sp_W) (a b : Int) (ls : List sp_L) (u : List Int) (c : Nat) : Prop := ¬ (c : Int) = a ∧ ¬ (c : Int) = b ∧ ∃ v x, sp_pre w a b ls u c = some v ∧ ls[c]? = some x ∧ x.1 = 2 ∧ ¬ sp_sx w x v = v
theorem sp_hd.no {w : sp_W} {a b : Int} {ls : List sp_L} {u : List Int} {c : Nat} (h : ¬ sp_hd w a b ls u c) (h1 : ¬ (c : Int) = a) (h2 : ¬ (c : Int) = b) : sp_nc w a b ls u c := fun v x hv hx hk => Classical.byContradiction fun g => h ⟨h1, h2, v, x, hv, hx, hk, g⟩
theorem sp_hd.kd {w : sp_W} {a b : Int} {ls : List sp_L} {u : List Int} {c : Nat} (h : sp_hd w a b ls u c) : sp_kd ls c = 2 ∧ c < ls.length := by
  obtain ⟨-, -, v, x, -, hx, hk, -⟩ := h
  exact ⟨by rw [sp_kd_i hx]; exact hk, (List.getElem?_eq_some_iff.mp hx).1⟩
/-- letters of a line's cells -/
theorem hx_LT.rp {cs : Nat → ClassId} {V : hp_V} {a : Nat} {w : sp_W} {z : Int} {j : Nat} (h : hx_LT cs V a w z j) : ∃ (z1 : Int32) (f : Nat → Int32), V a = some (.inr (9, [.ref (a + 1), .int z1])) ∧ V (a + 1) = some (.inl (cs 0, 8, .inl f)) ∧ z1.toInt = z ∧ z1.toInt ≤ 8 ∧ sp_rp z1 f (sp_lw w z j) := by
  obtain ⟨z1, f, h1, h2, h3, h4, h5⟩ := h
  exact ⟨z1, f, h1, h2, h3, by omega, sp_lw_rp h4.1 h3 h5⟩
theorem sp_lw_len {w : sp_W} {z : Int} {j : Nat} (h : 0 ≤ z) : ((sp_lw w z j).length : Int) = z := by
  unfold sp_lw
  rw [sp_seg_len]
  omega

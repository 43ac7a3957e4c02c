/-! ===== THE CLASS'S CELLS AND THE PURE BOOK ===== -/
/-- a fault of kind k at token j -/
def hx_F (w : sp_W) (k : Int) (j : Nat) (fk fp : Int32) : Prop := ¬ k = 0 ∧ fk.toInt = k ∧ fp.toInt = sp_s w j
def hx_O (w : sp_W) (j : Nat) (fk fp fk1 fp1 st nx tk : Int32) : Prop := fk1.toInt = fk.toInt ∧ fp1.toInt = fp.toInt ∧ hx_A w j st nx tk
theorem sp_seg_len (b : Int → Int) (s e : Int) : (sp_seg b s e).length = (e - s).toNat := by simp [sp_seg]
theorem sp_seg_at (b : Int → Int) (s e : Int) (k : Nat) (h : k < (e - s).toNat) : (sp_seg b s e)[k]? = some (b (s + k)) := by simp [sp_seg, h]
theorem sp_seg_eq {b : Int → Int} {s e s2 e2 : Int} : sp_seg b s e = sp_seg b s2 e2 ↔ ((e - s).toNat = (e2 - s2).toNat ∧ ∀ k : Nat, k < (e2 - s2).toNat → b (s + k) = b (s2 + k)) := by
  constructor
  · intro h
    have hl : (e - s).toNat = (e2 - s2).toNat := by rw [← sp_seg_len b s e, ← sp_seg_len b s2 e2, h]
    refine ⟨hl, fun k hk => ?_⟩
    have h1 := sp_seg_at b s e k (by omega)
    rw [h, sp_seg_at b s2 e2 k hk] at h1
    exact (Option.some.inj h1).symm
  · rintro ⟨hl, h⟩
    apply List.ext_getElem?
    intro k
    by_cases hk : k < (e2 - s2).toNat
    · rw [sp_seg_at b s e k (by omega), sp_seg_at b s2 e2 k hk, h k hk]
    · rw [List.getElem?_eq_none (by rw [sp_seg_len]; omega), List.getElem?_eq_none (by rw [sp_seg_len]; omega)]
/-- the text at a holds token t's word -/
def hx_N (cs : Nat → ClassId) (V : hp_V) (a : Nat) (w : sp_W) (t : Nat) : Prop := ∃ (z : Int32) (f : Nat → Int32), V a = some (.inr (9, [.ref (a + 1), .int z])) ∧ V (a + 1) = some (.inl (cs 0, 12, .inl f)) ∧ (0 ≤ z.toInt ∧ z.toInt ≤ 12) ∧ z.toInt = sp_e w t - sp_s w t ∧ ∀ k : Nat, (k : Int) < z.toInt → (f k).toInt = w.1 (sp_s w t + k)
theorem hx_N.keep {cs : Nat → ClassId} {V V' : hp_V} {a : Nat} {w : sp_W} {t : Nat} (h : hx_N cs V a w t) (e0 : V' a = V a) (e1 : V' (a + 1) = V (a + 1)) : hx_N cs V' a w t := by
  obtain ⟨z, f, h1, h2, h3⟩ := h
  exact ⟨z, f, e0.trans h1, e1.trans h2, h3⟩
theorem hx_nm {w : sp_W} {t j : Nat} {z z2 : Int32} {f f2 : Nat → Int32} (h0 : 0 ≤ z.toInt) (h1 : 0 ≤ z2.toInt) (e1 : z.toInt = sp_e w t - sp_s w t) (e2 : z2.toInt = sp_e w j - sp_s w j) (g1 : ∀ k : Nat, (k : Int) < z.toInt → (f k).toInt = w.1 (sp_s w t + k)) (g2 : ∀ k : Nat, (k : Int) < z2.toInt → (f2 k).toInt = w.1 (sp_s w j + k)) : (z.toInt = z2.toInt ∧ ∀ k : Nat, (k : Int) < z2.toInt → f k = f2 k) ↔ sp_nm w t = sp_nm w j := by
  unfold sp_nm
  rw [sp_seg_eq, ← e1, ← e2]
  constructor
  · rintro ⟨h2, h3⟩
    refine ⟨by omega, fun k hk => ?_⟩
    rw [← g1 k (by omega), ← g2 k (by omega), h3 k (by omega)]
  · rintro ⟨h2, h3⟩
    refine ⟨by omega, fun k hk => Int32.toInt_inj.mp ?_⟩
    rw [g1 k (by omega), g2 k (by omega), h3 k (by omega)]
def hx_NL (cs : Nat → ClassId) (V : hp_V) (ua N : Nat) (w : sp_W) (L : List Nat) : Prop := L.length ≤ N ∧ ∀ (i t : Nat), L[i]? = some t → hx_N cs V (ua + 2 * i) w t
theorem hx_NL.keep {cs : Nat → ClassId} {V V' : hp_V} {ua N : Nat} {w : sp_W} {L : List Nat} (h : hx_NL cs V ua N w L) (hk : ∀ x, (ua ≤ x ∧ x < ua + 2 * L.length) → V' x = V x) : hx_NL cs V' ua N w L := by
  refine ⟨h.1, fun i t hi => ?_⟩
  have hl := (List.getElem?_eq_some_iff.mp hi).1
  have h1 := h.1
  exact (h.2 i t hi).keep (hk _ (by omega)) (hk _ (by omega))
theorem hx_NL.add {cs : Nat → ClassId} {V : hp_V} {ua N : Nat} {w : sp_W} {L : List Nat} {t : Nat} (h : hx_NL cs V ua N w L) (hN : L.length < N) (hn : hx_N cs V (ua + 2 * L.length) w t) : hx_NL cs V ua N w (L ++ [t]) := by
  refine ⟨by simp; omega, fun i t2 hi => ?_⟩
  by_cases c : i < L.length
  · rw [List.getElem?_append_left c] at hi
    exact h.2 i t2 hi
  · have hl : i < (L ++ [t]).length := (List.getElem?_eq_some_iff.mp hi).1
    have hi2 : i = L.length := by simp at hl; omega
    subst hi2
    rw [List.getElem?_append_right (Nat.le_refl _)] at hi
    simp at hi
    subst hi
    exact hn
theorem sp_fi_go {w : sp_W} {j : Nat} {L : List Nat} {i t : Nat} (hi : L[i]? = some t) (k : Int) : sp_fi w j (L.drop i) k = if sp_nm w t = sp_nm w j then k else sp_fi w j (L.drop (i + 1)) (k + 1) := by
  obtain ⟨hl, he⟩ := List.getElem?_eq_some_iff.mp hi
  rw [List.drop_eq_getElem_cons hl, he]
  rfl
theorem sp_fi_out {w : sp_W} {j : Nat} {L : List Nat} {i : Nat} (hi : L.length ≤ i) (k : Int) : sp_fi w j (L.drop i) k = -1 := by
  rw [List.drop_eq_nil_of_le hi]
  rfl
theorem sp_fi_rg (w : sp_W) (j : Nat) (L : List Nat) : ∀ k : Int, 0 ≤ k → (sp_fi w j L k = -1 ∨ (k ≤ sp_fi w j L k ∧ sp_fi w j L k < k + L.length)) := by
  induction L with
  | nil => intro k hk; exact Or.inl rfl
  | cons t L ih =>
    intro k hk
    simp only [sp_fi, List.length_cons]
    split
    · right; omega
    · rcases ih (k + 1) (by omega) with h | h
      · exact Or.inl h
      · right; omega
/-- the arrays of references of the book at qb -/
def hx_BS (cs : Nat → ClassId) (V : hp_V) (qb : Nat) : Prop := (∃ g : Nat → Option Nat, V (qb + 1) = some (.inl (cs 7, 6, .inr (.inr (.inr (.inr g))))) ∧ ∀ j, j < 6 → g j = some (qb + 2 + 2 * j)) ∧ (∃ g : Nat → Option Nat, V (qb + 14) = some (.inl (cs 7, 30, .inr (.inr (.inr (.inr g))))) ∧ ∀ j, j < 30 → g j = some (qb + 15 + 2 * j)) ∧ (∃ g : Nat → Option Nat, V (qb + 76) = some (.inl (cs 6, 60, .inr (.inr (.inr (.inr g))))) ∧ ∀ j, j < 60 → g j = some (qb + 77 + 5 * j))
theorem hx_BS.keep {cs : Nat → ClassId} {V V' : hp_V} {qb : Nat} (h : hx_BS cs V qb) (e0 : V' (qb + 1) = V (qb + 1)) (e1 : V' (qb + 14) = V (qb + 14)) (e2 : V' (qb + 76) = V (qb + 76)) : hx_BS cs V' qb := by
  obtain ⟨⟨g1, h1, k1⟩, ⟨g2, h2, k2⟩, ⟨g3, h3, k3⟩⟩ := h
  exact ⟨⟨g1, e0.trans h1, k1⟩, ⟨g2, e1.trans h2, k2⟩, ⟨g3, e2.trans h3, k3⟩⟩
/-- the letters of a line: size z, token j -/
def hx_LT (cs : Nat → ClassId) (V : hp_V) (a : Nat) (w : sp_W) (z : Int) (j : Nat) : Prop := ∃ (z1 : Int32) (f : Nat → Int32), V a = some (.inr (9, [.ref (a + 1), .int z1])) ∧ V (a + 1) = some (.inl (cs 0, 8, .inl f)) ∧ z1.toInt = z ∧ (0 ≤ z ∧ z ≤ 8) ∧ ∀ k : Nat, (k : Int) < z → (f k).toInt = w.1 (sp_s w j + 1 + k)
theorem hx_LT.keep {cs : Nat → ClassId} {V V' : hp_V} {a : Nat} {w : sp_W} {z : Int} {j : Nat} (h : hx_LT cs V a w z j) (e0 : V' a = V a) (e1 : V' (a + 1) = V (a + 1)) : hx_LT cs V' a w z j := by
  obtain ⟨z1, f, h1, h2, h3⟩ := h
  exact ⟨z1, f, e0.trans h1, e1.trans h2, h3⟩
/-- the line at a is the pure line x -/
def hx_LN (cs : Nat → ClassId) (V : hp_V) (a : Nat) (w : sp_W) (x : sp_L) : Prop := ∃ k o t p h ht pa la : Int32, V a = some (.inr (5, [.int k, .int o, .int t, .int p, .int h, .int ht, .int pa, .int la, .ref (a + 1), .ref (a + 3)])) ∧ k.toInt = x.1 ∧ o.toInt = x.2.1 ∧ t.toInt = x.2.2.1 ∧ p.toInt = x.2.2.2.1 ∧ (x.1 = 3 → h.toInt = x.2.2.2.2.1) ∧ (¬ x.1 = 3 → la.toInt = x.2.2.2.2.1) ∧ hx_LT cs V (a + 1) w x.2.2.2.2.2.1 x.2.2.2.2.2.2.2.1 ∧ hx_LT cs V (a + 3) w x.2.2.2.2.2.2.1 x.2.2.2.2.2.2.2.2
theorem hx_LN.keep {cs : Nat → ClassId} {V V' : hp_V} {a : Nat} {w : sp_W} {x : sp_L} (h : hx_LN cs V a w x) (hk : ∀ y, (a ≤ y ∧ y < a + 5) → V' y = V y) : hx_LN cs V' a w x := by
  obtain ⟨k, o, t, p, h, ht, pa, la, h1, h2, h3, h4, h5, h6, h7, h8, h9⟩ := h
  exact ⟨k, o, t, p, h, ht, pa, la, (hk _ (by omega)).trans h1, h2, h3, h4, h5, h6, h7, h8.keep (hk _ (by omega)) (hk _ (by omega)), h9.keep (hk _ (by omega)) (hk _ (by omega))⟩
def hx_LL (cs : Nat → ClassId) (V : hp_V) (ua : Nat) (w : sp_W) (ls : List sp_L) : Prop := ls.length ≤ 60 ∧ ∀ (i : Nat) (x : sp_L), ls[i]? = some x → hx_LN cs V (ua + 5 * i) w x
theorem hx_LL.keep {cs : Nat → ClassId} {V V' : hp_V} {ua : Nat} {w : sp_W} {ls : List sp_L} (h : hx_LL cs V ua w ls) (hk : ∀ x, (ua ≤ x ∧ x < ua + 5 * ls.length) → V' x = V x) : hx_LL cs V' ua w ls := by
  refine ⟨h.1, fun i x hi => ?_⟩
  have hl := (List.getElem?_eq_some_iff.mp hi).1
  exact (h.2 i x hi).keep (fun y hy => hk y (by omega))
theorem hx_LL.add {cs : Nat → ClassId} {V : hp_V} {ua : Nat} {w : sp_W} {ls : List sp_L} {x : sp_L} (h : hx_LL cs V ua w ls) (hN : ls.length < 60) (hn : hx_LN cs V (ua + 5 * ls.length) w x) : hx_LL cs V ua w (ls ++ [x]) := by
  refine ⟨by simp; omega, fun i t2 hi => ?_⟩
  by_cases c : i < ls.length
  · rw [List.getElem?_append_left c] at hi
    exact h.2 i t2 hi
  · have hl : i < (ls ++ [x]).length := (List.getElem?_eq_some_iff.mp hi).1
    have hi2 : i = ls.length := by simp at hl; omega
    subst hi2
    rw [List.getElem?_append_right (Nat.le_refl _)] at hi
    simp at hi
    subst hi
    exact hn
theorem sp_like_go {o t p : Int} {ls : List sp_L} {i : Nat} {x : sp_L} (hi : ls[i]? = some x) (k : Int) : sp_like o t p (ls.drop i) k = sp_like o t p (ls.drop (i + 1)) (if x.1 = 4 ∧ x.2.1 = o ∧ x.2.2.1 = t ∧ x.2.2.2.1 = p then k + 1 else k) := by
  obtain ⟨hl, he⟩ := List.getElem?_eq_some_iff.mp hi
  rw [List.drop_eq_getElem_cons hl, he]
  rfl
theorem sp_like_out {o t p : Int} {ls : List sp_L} {i : Nat} (hi : ls.length ≤ i) (k : Int) : sp_like o t p (ls.drop i) k = k := by
  rw [List.drop_eq_nil_of_le hi]
  rfl
theorem sp_let_j {w : sp_W} {j : Nat} (h : (sp_let w j).1 = 0) : (sp_let w j).2 = j + 1 ∧ sp_k w j = 19 := by
  unfold sp_let at h ⊢
  split at h
  · rename_i h1; rw [if_pos h1]; exact ⟨rfl, h1⟩
  · cases h
theorem sp_take_j {w : sp_W} {d : Int} {j : Nat} (h : (sp_take w d j).1 = 0) : (sp_take w d j).2 = j + 1 ∧ sp_k w j = d := by
  unfold sp_take at h ⊢
  split at h
  · rename_i h1; rw [if_pos h1]; exact ⟨rfl, h1⟩
  · cases h
/-- the shapes of the book's cells, whatever they hold -/
def hx_TS (cs : Nat → ClassId) (V : hp_V) (a R : Nat) : Prop := ∃ (z : Int32) (f : Nat → Int32), V a = some (.inr (9, [.ref (a + 1), .int z])) ∧ V (a + 1) = some (.inl (cs 0, R, .inl f)) ∧ (0 ≤ z.toInt ∧ z.toInt ≤ R)
def hx_LS (cs : Nat → ClassId) (V : hp_V) (a : Nat) : Prop := (∃ k o t p h ht pa la : Int32, V a = some (.inr (5, [.int k, .int o, .int t, .int p, .int h, .int ht, .int pa, .int la, .ref (a + 1), .ref (a + 3)])) ∧ (-1 ≤ h.toInt ∧ h.toInt ≤ 29)) ∧ hx_TS cs V (a + 1) 8 ∧ hx_TS cs V (a + 3) 8
theorem hx_TS.keep {cs : Nat → ClassId} {V V' : hp_V} {a R : Nat} (h : hx_TS cs V a R) (e0 : V' a = V a) (e1 : V' (a + 1) = V (a + 1)) : hx_TS cs V' a R := by
  obtain ⟨z, f, h1, h2, h3⟩ := h
  exact ⟨z, f, e0.trans h1, e1.trans h2, h3⟩
theorem hx_LS.keep {cs : Nat → ClassId} {V V' : hp_V} {a : Nat} (h : hx_LS cs V a) (hk : ∀ y, (a ≤ y ∧ y < a + 5) → V' y = V y) : hx_LS cs V' a := by
  obtain ⟨⟨k, o, t, p, h, ht, pa, la, h1, h2⟩, h3, h4⟩ := h
  exact ⟨⟨k, o, t, p, h, ht, pa, la, (hk _ (by omega)).trans h1, h2⟩, h3.keep (hk _ (by omega)) (hk _ (by omega)), h4.keep (hk _ (by omega)) (hk _ (by omega))⟩
def hx_SK (cs : Nat → ClassId) (V : hp_V) (qb : Nat) : Prop := (∀ i, i < 6 → hx_TS cs V (qb + 2 + 2 * i) 12) ∧ (∀ i, i < 30 → hx_TS cs V (qb + 15 + 2 * i) 12) ∧ (∀ i, i < 60 → hx_LS cs V (qb + 77 + 5 * i))
theorem hx_SK.keep {cs : Nat → ClassId} {V V' : hp_V} {qb : Nat} (h : hx_SK cs V qb) (hk : ∀ x, (qb + 2 ≤ x ∧ x < qb + 377) → V' x = V x) : hx_SK cs V' qb :=
  ⟨fun i hi => (h.1 i hi).keep (hk _ (by omega)) (hk _ (by omega)), fun i hi => (h.2.1 i hi).keep (hk _ (by omega)) (hk _ (by omega)), fun i hi => (h.2.2 i hi).keep (fun y hy => hk y (by omega))⟩
theorem hx_SK.ln {cs : Nat → ClassId} {V V' : hp_V} {qb i : Nat} (h : hx_SK cs V qb) (hk : ∀ x, (qb + 2 ≤ x ∧ x < qb + 377 ∧ (x < qb + 77 + 5 * i ∨ qb + 77 + 5 * i + 5 ≤ x)) → V' x = V x) (hn : hx_LS cs V' (qb + 77 + 5 * i)) : hx_SK cs V' qb := by
  refine ⟨fun k hi => (h.1 k hi).keep (hk _ (by omega)) (hk _ (by omega)), fun k hi => (h.2.1 k hi).keep (hk _ (by omega)) (hk _ (by omega)), fun k hi => ?_⟩
  by_cases c : k = i
  · subst c; exact hn
  · exact (h.2.2 k hi).keep (fun y hy => hk y (by omega))
theorem hx_SK.cn {cs : Nat → ClassId} {V V' : hp_V} {qb i : Nat} (h : hx_SK cs V qb) (hk : ∀ x, (qb + 2 ≤ x ∧ x < qb + 377 ∧ x ≠ qb + 2 + 2 * i ∧ x ≠ qb + 2 + 2 * i + 1) → V' x = V x) (hi6 : i < 6) (hn : hx_TS cs V' (qb + 2 + 2 * i) 12) : hx_SK cs V' qb := by
  refine ⟨fun k hi => ?_, fun k hi => (h.2.1 k hi).keep (hk _ (by omega)) (hk _ (by omega)), fun k hi => (h.2.2 k hi).keep (fun y hy => hk y (by omega))⟩
  by_cases c : k = i
  · subst c; exact hn
  · exact (h.1 k hi).keep (hk _ (by omega)) (hk _ (by omega))
theorem hx_SK.vn {cs : Nat → ClassId} {V V' : hp_V} {qb i : Nat} (h : hx_SK cs V qb) (hk : ∀ x, (qb + 2 ≤ x ∧ x < qb + 377 ∧ x ≠ qb + 75 ∧ x ≠ qb + 15 + 2 * i ∧ x ≠ qb + 15 + 2 * i + 1) → V' x = V x) (hi6 : i < 30) (hn : hx_TS cs V' (qb + 15 + 2 * i) 12) : hx_SK cs V' qb := by
  refine ⟨fun k hi => (h.1 k hi).keep (hk _ (by omega)) (hk _ (by omega)), fun k hi => ?_, fun k hi => (h.2.2 k hi).keep (fun y hy => hk y (by omega))⟩
  by_cases c : k = i
  · subst c; exact hn
  · exact (h.2.1 k hi).keep (hk _ (by omega)) (hk _ (by omega))
/-- the shapes of all of the book's cells' types -/
def hx_BT (G : hq_G) (qb bb : Nat) : Prop := (∀ i, i < 6 → G (qb + 2 + 2 * i) = some (0, 12, 0, 0) ∧ G (qb + 2 + 2 * i + 1) = some (1, 12, 0, 0)) ∧ (∀ i, i < 30 → G (qb + 15 + 2 * i) = some (0, 12, 0, 0) ∧ G (qb + 15 + 2 * i + 1) = some (1, 12, 0, 0)) ∧ (∀ i, i < 60 → G (qb + 77 + 5 * i) = some (5, bb, 0, 0) ∧ G (qb + 77 + 5 * i + 1) = some (0, 8, 0, 0) ∧ G (qb + 77 + 5 * i + 2) = some (1, 8, 0, 0) ∧ G (qb + 77 + 5 * i + 3) = some (0, 8, 0, 0) ∧ G (qb + 77 + 5 * i + 4) = some (1, 8, 0, 0))
theorem sp_new_k {w : sp_W} {L : List Nat} {j : Nat} (h : (sp_new w L j).1 = 0) : sp_k w j = 17 := by
  unfold sp_new at h
  split at h
  · cases h
  · omega
/-- the class's book at qb is the pure book b of the text w -/
def hx_BK (cs : Nat → ClassId) (V : hp_V) (qb : Nat) (w : sp_W) (b : sp_B) : Prop := (∃ bc bv bl : Int32, V qb = some (.inr (0, [.ref (qb + 1), .int bc, .ref (qb + 14), .ref (qb + 75), .int bv, .ref (qb + 76), .int bl])) ∧ bc.toInt = (b.1.length : Int) ∧ bv.toInt = (b.2.1.length : Int) ∧ bl.toInt = (b.2.2.2.length : Int)) ∧ hx_NL cs V (qb + 2) 6 w b.1 ∧ hx_NL cs V (qb + 15) 30 w b.2.1 ∧ (∃ f : Nat → Int32, V (qb + 75) = some (.inl (cs 1, 30, .inl f)) ∧ b.2.2.1.length = b.2.1.length ∧ ∀ (k : Nat) (x : Int), b.2.2.1[k]? = some x → (f k).toInt = x) ∧ hx_LL cs V (qb + 77) w b.2.2.2
theorem hx_VC.add {f g : Nat → Int32} {vc : List Int} {x : Int32} (h : ∀ (k : Nat) (y : Int), vc[k]? = some y → (f k).toInt = y) (e : g = upd f vc.length x) : ∀ (k : Nat) (y : Int), (vc ++ [x.toInt])[k]? = some y → (g k).toInt = y := by
  intro k y hk
  rw [e]
  by_cases c : k < vc.length
  · rw [List.getElem?_append_left c] at hk
    rw [hm_un (by omega)]
    exact h k y hk
  · have hl : k < (vc ++ [x.toInt]).length := (List.getElem?_eq_some_iff.mp hk).1
    have hi2 : k = vc.length := by simp at hl; omega
    subst hi2
    rw [List.getElem?_append_right (Nat.le_refl _)] at hk
    simp at hk
    rw [hm_ue]
    exact hk
/-- tokens come one behind the other -/
theorem sp_s_up (w : sp_W) (j : Nat) : sp_s w j + 1 ≤ sp_s w (j + 1) := by
  have h1 := sp_E_gt w (sp_pos w j)
  have h2 := sp_S_ge w (sp_pos w (j + 1))
  rw [sp_pos_e] at h2
  unfold sp_s
  unfold sp_e at h2
  rw [sp_pos_e]
  unfold sp_e
  omega
theorem sp_s_mono (w : sp_W) (j d : Nat) : sp_s w j + d ≤ sp_s w (j + d) := by
  induction d with
  | zero => simp
  | succ d ih =>
    have h := sp_s_up w (j + d)
    rw [show j + (d + 1) = j + d + 1 by omega]
    omega
theorem sp_s_mono2 (w : sp_W) {j k : Nat} (h : j ≤ k) : sp_s w j + ((k - j : Nat) : Int) ≤ sp_s w k := by
  have h1 := sp_s_mono w j (k - j)
  rw [show j + (k - j) = k by omega] at h1
  exact h1
section SPJ
variable {w : sp_W} {j : Nat}
theorem sp_take_ge (d : Int) : j ≤ (sp_take w d j).2 := by unfold sp_take; split <;> simp
theorem sp_num_ge (d : Int) : j ≤ (sp_num w d j).2.1 := by
  unfold sp_num
  repeat' split
  all_goals simp
theorem sp_old_ge (L : List Nat) : j ≤ (sp_old w L j).2.1 := by
  unfold sp_old
  repeat' split
  all_goals simp
theorem sp_new_ge (L : List Nat) : j ≤ (sp_new w L j).2 := by
  unfold sp_new
  repeat' split
  all_goals simp
theorem sp_nem_ge : j ≤ (sp_nem w j).2 := by unfold sp_nem; split <;> simp
theorem sp_let_ge : j ≤ (sp_let w j).2 := by unfold sp_let; split <;> simp
theorem sp_where_ge (L : List Nat) : j ≤ (sp_where w L j).2.1 := by
  have h1 := sp_take_ge (w := w) (j := j) 15
  have h2 := sp_old_ge (w := w) (j := (sp_take w 15 j).2) L
  unfold sp_where
  repeat' split
  all_goals first | omega | (dsimp only; omega)
theorem sp_slot_ge : j ≤ (sp_slot w j).2.1 := by
  have h1 := sp_take_ge (w := w) (j := j) 11
  have h2 := sp_num_ge (w := w) (j := (sp_take w 11 j).2) 5
  have h3 := sp_num_ge (w := w) (j := (sp_num w 5 (sp_take w 11 j).2).2.1 + 1) 6
  unfold sp_slot
  repeat' split
  all_goals first | omega | (dsimp only; omega)
theorem sp_chg_ge : j ≤ (sp_chg w j).2 := by
  have h1 := sp_nem_ge (w := w) (j := j)
  have h2 := sp_let_ge (w := w) (j := j)
  have h3 := sp_take_ge (w := w) (j := (sp_let w j).2) 9
  have h4 := sp_let_ge (w := w) (j := (sp_take w 9 (sp_let w j).2).2)
  unfold sp_chg
  repeat' split
  all_goals omega
theorem sp_last_ge : j ≤ (sp_last w j).2.1 := by unfold sp_last; split <;> simp
theorem sp_exc_ge (k : Int) : j ≤ (sp_exc w k j).2 := by
  have h1 := sp_nem_ge (w := w) (j := j)
  have h2 := sp_let_ge (w := w) (j := j)
  unfold sp_exc
  repeat' split
  all_goals first | omega | (dsimp only; omega)
theorem sp_comp_ge (L : List Nat) : j ≤ (sp_comp w L j).2.1 := by
  have h1 := sp_take_ge (w := w) (j := j) 11
  have h2 := sp_num_ge (w := w) (j := (sp_take w 11 j).2) 5
  have h3 := sp_take_ge (w := w) (j := (sp_num w 5 ((sp_take w 11 j).2)).2.1) 12
  have h4 := sp_old_ge (w := w) (j := (sp_take w 12 ((sp_num w 5 ((sp_take w 11 j).2)).2.1)).2) L
  have h5 := sp_take_ge (w := w) (j := (sp_old w L ((sp_take w 12 ((sp_num w 5 ((sp_take w 11 j).2)).2.1)).2)).2.1) 11
  have h6 := sp_num_ge (w := w) (j := (sp_take w 11 ((sp_old w L ((sp_take w 12 ((sp_num w 5 ((sp_take w 11 j).2)).2.1)).2)).2.1)).2) 5
  have h7 := sp_take_ge (w := w) (j := (sp_num w 5 ((sp_take w 11 ((sp_old w L ((sp_take w 12 ((sp_num w 5 ((sp_take w 11 j).2)).2.1)).2)).2.1)).2)).2.1) 13
  have h8 := sp_num_ge (w := w) (j := (sp_take w 13 ((sp_num w 5 ((sp_take w 11 ((sp_old w L ((sp_take w 12 ((sp_num w 5 ((sp_take w 11 j).2)).2.1)).2)).2.1)).2)).2.1)).2) 5
  unfold sp_comp
  repeat' split
  all_goals first | omega | (dsimp only; omega)
theorem sp_line_ge (b : sp_B) (k : Int) : j ≤ (sp_line w b k j).2.1 := by
  have h1 := sp_where_ge (w := w) (j := j) b.1
  have h2 := sp_slot_ge (w := w) (j := (sp_where w b.1 j).2.1)
  have h3 := sp_chg_ge (w := w) (j := (sp_slot w (sp_where w b.1 j).2.1).2.1)
  have h4 := sp_let_ge (w := w) (j := (sp_slot w (sp_where w b.1 j).2.1).2.1)
  have h5 := sp_chg_ge (w := w) (j := j)
  have h6 := sp_last_ge (w := w) (j := (sp_chg w j).2)
  have h7 := sp_comp_ge (w := w) (j := (sp_where w b.1 j).2.1) b.2.1
  have h8 := sp_old_ge (w := w) (j := j) b.2.1
  have h9 := sp_slot_ge (w := w) (j := (sp_old w b.2.1 j).2.1)
  have h10 := sp_exc_ge (w := w) (j := (sp_slot w (sp_old w b.2.1 j).2.1).2.1) (sp_like (sp_old w b.2.1 j).2.2 (sp_slot w (sp_old w b.2.1 j).2.1).2.2.1 (sp_slot w (sp_old w b.2.1 j).2.1).2.2.2 b.2.2.2 0)
  unfold sp_line
  repeat' split
  all_goals first | omega | (dsimp only; omega)
theorem sp_item_ge (b : sp_B) : j ≤ (sp_item w b j).2.1 := by
  have h1 := sp_take_ge (w := w) (j := j + 2) 8
  have h2 := sp_old_ge (w := w) (j := (sp_take w 8 (j + 2)).2) b.1
  have h3 := sp_line_ge (w := w) (j := j + 1) b (sp_k w j)
  have h7 := sp_new_ge (w := w) (j := j + 1) b.1
  have h8 := sp_new_ge (w := w) (j := j + 1) b.2.1
  have h4 : j ≤ (sp_tc w b.1 j).2 := by
    unfold sp_tc
    repeat' split
    all_goals first | omega | (dsimp only; omega)
  have h5 : j ≤ (sp_tv w b.1 b.2.1 j).2.1 := by
    unfold sp_tv
    repeat' split
    all_goals first | omega | (dsimp only; omega)
  have h6 : j ≤ (sp_tl w b j).2.1 := by
    unfold sp_tl
    repeat' split
    all_goals first | omega | (dsimp only; omega)
  unfold sp_item
  repeat' split
  all_goals first | omega | (dsimp only; omega)
end SPJ
section SPR
variable {w : sp_W} {f j : Nat} {cl vn : List Nat} {vc : List Int} {ls : List sp_L}
theorem sp_prs_end {b : sp_B} (h : sp_k w j = 21) : sp_prs w (f + 1) j b = (0, j, b) := by simp only [sp_prs]; rw [if_pos h]
theorem sp_prs_ok {b : sp_B} (h : ¬ sp_k w j = 21) (h0 : (sp_item w b j).1 = 0) (h1 : (sp_take w 20 (sp_item w b j).2.1).1 = 0) : sp_prs w (f + 1) j b = sp_prs w f (sp_take w 20 (sp_item w b j).2.1).2 (sp_item w b j).2.2 := by
  simp only [sp_prs]
  rw [if_neg h, if_neg (by omega), if_neg (by omega)]
theorem sp_prs_bad {b : sp_B} (h : ¬ sp_k w j = 21) (h0 : ¬ (sp_item w b j).1 = 0) : sp_prs w (f + 1) j b = ((sp_item w b j).1, (sp_item w b j).2.1, b) := by
  simp only [sp_prs]
  rw [if_neg h, if_pos h0]
theorem sp_prs_semi {b : sp_B} (h : ¬ sp_k w j = 21) (h0 : (sp_item w b j).1 = 0) (h1 : ¬ (sp_take w 20 (sp_item w b j).2.1).1 = 0) : sp_prs w (f + 1) j b = ((sp_take w 20 (sp_item w b j).2.1).1, (sp_take w 20 (sp_item w b j).2.1).2, b) := by
  simp only [sp_prs]
  rw [if_neg h, if_neg (by omega), if_pos h1]
theorem sp_it_c (h : sp_k w j = 6) : sp_item w (cl, vn, vc, ls) j = ((sp_tc w cl j).1, (sp_tc w cl j).2, (cl ++ [j + 1], vn, vc, ls)) := by unfold sp_item; rw [if_pos h]
theorem sp_it_v (h : sp_k w j = 7) : sp_item w (cl, vn, vc, ls) j = ((sp_tv w cl vn j).1, (sp_tv w cl vn j).2.1, (cl, vn ++ [j + 1], vc ++ [(sp_tv w cl vn j).2.2], ls)) := by unfold sp_item; rw [if_neg (by omega), if_pos h]
theorem sp_it_l (h : ¬ sp_k w j = 6) (h2 : ¬ sp_k w j = 7) : sp_item w (cl, vn, vc, ls) j = ((sp_tl w (cl, vn, vc, ls) j).1, (sp_tl w (cl, vn, vc, ls) j).2.1, (cl, vn, vc, ls ++ [(sp_tl w (cl, vn, vc, ls) j).2.2])) := by unfold sp_item; rw [if_neg h, if_neg h2]
end SPR
theorem hx_NL.nil {cs : Nat → ClassId} {V : hp_V} {ua N : Nat} {w : sp_W} : hx_NL cs V ua N w [] := ⟨Nat.zero_le _, fun i t h => by simp at h⟩
theorem hx_LL.nil {cs : Nat → ClassId} {V : hp_V} {ua : Nat} {w : sp_W} : hx_LL cs V ua w [] := ⟨Nat.zero_le _, fun i t h => by simp at h⟩
theorem sp_len1 {α : Type} (L : List α) (x : α) : (L ++ [x]).length = L.length + 1 := by simp
/-- the book's own cell, whatever it counts -/
def hx_BK0 (V : hp_V) (qb : Nat) : Prop := ∃ bc bv bl : Int32, V qb = some (.inr (0, [.ref (qb + 1), .int bc, .ref (qb + 14), .ref (qb + 75), .int bv, .ref (qb + 76), .int bl])) ∧ (0 ≤ bc.toInt ∧ bc.toInt ≤ 6) ∧ (0 ≤ bv.toInt ∧ bv.toInt ≤ 30) ∧ (0 ≤ bl.toInt ∧ bl.toInt ≤ 60)

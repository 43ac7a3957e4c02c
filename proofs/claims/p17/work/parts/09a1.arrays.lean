/-! ===== THE REFERENCE'S ARRAYS: all of its book's arrays as one function of array and place ===== -/
def hm_arn : List Nat := [2, 2, 2, 144, 720, 960, 960, 12, 60, 60, 120, 120, 120, 120, 120, 120, 120, 120, 120]
def hm_art (a : Nat) : Nat := if 3 ≤ a ∧ a ≤ 6 then 0 else 1
/-- where the draft begins -/
def hm_half : List Nat := [1, 1, 1, 72, 360, 480, 480, 6, 30, 30, 60, 60, 60, 60, 60, 60, 60, 60, 60]
abbrev hm_Rh : Type := Nat → Nat → Int32
def hm_AR (cs : Nat → ClassId) (V : hp_V) (q : Nat) (rh : hm_Rh) : Prop := ∀ a, a < 19 → V (q + a) = some (.inl (cs (hm_art a), hm_arn.getD a 0, .inl (rh a)))
def hm_u2 (rh : hm_Rh) (a i : Nat) (v : Int32) : hm_Rh := fun x => if x = a then upd (rh x) i v else rh x
theorem hm_AR.keep {cs : Nat → ClassId} {V V' : hp_V} {q : Nat} {rh : hm_Rh} (h : hm_AR cs V q rh) (hk : ∀ x, (q ≤ x ∧ x < q + 19) → V' x = V x) : hm_AR cs V' q rh := fun a ha => (hk _ (by omega)).trans (h a ha)
theorem hm_AR.put {cs : Nat → ClassId} {V V' : hp_V} {q : Nat} {rh : hm_Rh} {a i : Nat} {v : Int32} {f : Nat → Int32} (h : hm_AR cs V q rh) (ha : a < 19) (hf : f = upd (rh a) i v) (e1 : V' (q + a) = some (.inl (cs (hm_art a), hm_arn.getD a 0, .inl f))) (o1 : ∀ x, x ≠ q + a → V' x = V x) : hm_AR cs V' q (hm_u2 rh a i v) := by
  intro x hx
  by_cases c : x = a
  · subst c
    rw [e1, hf]
    unfold hm_u2
    rw [if_pos rfl]
  · rw [o1 _ (by omega), h x hx]
    unfold hm_u2
    rw [if_neg c]
theorem hm_u2e {rh : hm_Rh} {a i : Nat} {v : Int32} : hm_u2 rh a i v a i = v := by unfold hm_u2; rw [if_pos rfl]; exact hm_ue
theorem hm_u2a {rh : hm_Rh} {a b i j : Nat} {v : Int32} (h : b ≠ a) : hm_u2 rh a i v b j = rh b j := by unfold hm_u2; rw [if_neg h]
theorem hm_u2i {rh : hm_Rh} {a b i j : Nat} {v : Int32} (h : j ≠ i) : hm_u2 rh a i v b j = rh b j := by
  unfold hm_u2
  split
  · exact hm_un h
  · rfl
/-- what is held stays: only the draft is written -/
def hm_H (rh rh1 : hm_Rh) : Prop := ∀ a i, i < hm_half.getD a 0 → rh1 a i = rh a i
theorem hm_H.rf {rh : hm_Rh} : hm_H rh rh := fun _ _ _ => rfl
theorem hm_H.put {rh rh1 : hm_Rh} {a i : Nat} {v : Int32} (h : hm_H rh rh1) (hi : hm_half.getD a 0 ≤ i) : hm_H rh (hm_u2 rh1 a i v) := by
  intro b j hj
  by_cases c : b = a ∧ j = i
  · obtain ⟨rfl, rfl⟩ := c; omega
  · rw [← h b j hj]
    by_cases c2 : b = a
    · exact hm_u2i (fun e => c ⟨c2, e⟩)
    · exact hm_u2a c2
theorem hm_H.trans {rh rh1 rh2 : hm_Rh} (h : hm_H rh rh1) (h2 : hm_H rh1 rh2) : hm_H rh rh2 := fun a i hi => (h2 a i hi).trans (h a i hi)
/-- only these arrays, at place l, were written -/
def hm_W (as : List Nat) (l : Nat) (rh rh1 : hm_Rh) : Prop := ∀ a i, ¬ (a ∈ as ∧ i = l) → rh1 a i = rh a i
theorem hm_W.rf {as : List Nat} {l : Nat} {rh : hm_Rh} : hm_W as l rh rh := fun _ _ _ => rfl
theorem hm_W.put {as : List Nat} {l a : Nat} {v : Int32} {rh rh1 : hm_Rh} (h : hm_W as l rh rh1) (ha : a ∈ as) : hm_W as l rh (hm_u2 rh1 a l v) := by
  intro b j hj
  rw [← h b j hj]
  by_cases c2 : b = a
  · subst c2
    exact hm_u2i (fun e => hj ⟨ha, e⟩)
  · exact hm_u2a c2
theorem hm_W.trans {as bs : List Nat} {l : Nat} {rh rh1 rh2 : hm_Rh} (h : hm_W as l rh rh1) (h2 : hm_W bs l rh1 rh2) (hs : ∀ a, a ∈ bs → a ∈ as) : hm_W as l rh rh2 := fun a i hi => (h2 a i (fun g => hi ⟨hs a g.1, g.2⟩)).trans (h a i hi)
/-- names of the draft or of what is held: base is the first one's place -/
def hm_NL (rh : hm_Rh) (sa na base N : Nat) (w : sp_W) (L : List Nat) : Prop := L.length ≤ N ∧ ∀ (i t : Nat), L[i]? = some t → ((rh sa (base + i)).toInt = sp_e w t - sp_s w t ∧ (0 ≤ sp_e w t - sp_s w t ∧ sp_e w t - sp_s w t ≤ 12) ∧ ∀ k : Nat, (k : Int) < sp_e w t - sp_s w t → (rh na (12 * (base + i) + k)).toInt = w.1 (sp_s w t + k))
theorem hm_NL.keep {rh rh1 : hm_Rh} {sa na base N : Nat} {w : sp_W} {L : List Nat} (h : hm_NL rh sa na base N w L) (h1 : ∀ i, base ≤ i → i < base + L.length → rh1 sa i = rh sa i) (h2 : ∀ i, 12 * base ≤ i → i < 12 * (base + L.length) → rh1 na i = rh na i) : hm_NL rh1 sa na base N w L := by
  refine ⟨h.1, fun i t hi => ?_⟩
  have hl := (List.getElem?_eq_some_iff.mp hi).1
  obtain ⟨g1, g2, g3⟩ := h.2 i t hi
  refine ⟨by rw [h1 _ (by omega) (by omega)]; exact g1, g2, fun k hk => ?_⟩
  rw [h2 _ (by omega) (by omega)]
  exact g3 k hk
theorem hm_NL.add {rh : hm_Rh} {sa na base N : Nat} {w : sp_W} {L : List Nat} {t : Nat} (h : hm_NL rh sa na base N w L) (hN : L.length < N) (g : (rh sa (base + L.length)).toInt = sp_e w t - sp_s w t ∧ (0 ≤ sp_e w t - sp_s w t ∧ sp_e w t - sp_s w t ≤ 12) ∧ ∀ k : Nat, (k : Int) < sp_e w t - sp_s w t → (rh na (12 * (base + L.length) + k)).toInt = w.1 (sp_s w t + k)) : hm_NL rh sa na base N w (L ++ [t]) := by
  refine ⟨by simp; omega, fun i t2 hi => ?_⟩
  by_cases c : i < L.length
  · rw [List.getElem?_append_left c] at hi
    exact h.2 i t2 hi
  · have hl : i < (L ++ [t]).length := (List.getElem?_eq_some_iff.mp hi).1
    have hi2 : i = L.length := by simp at hl; omega
    subst hi2
    rw [List.getElem?_append_right (Nat.le_refl _)] at hi
    simp at hi
    subst hi
    exact g
theorem hm_NL.nil {rh : hm_Rh} {sa na base N : Nat} {w : sp_W} : hm_NL rh sa na base N w [] := ⟨Nat.zero_le _, fun i t h => by simp at h⟩
/-- letters of a line -/
def hm_LT (rh : hm_Rh) (za fa l : Nat) (w : sp_W) (z : Int) (j : Nat) : Prop := (rh za l).toInt = z ∧ (0 ≤ z ∧ z ≤ 8) ∧ ∀ k : Nat, (k : Int) < z → (rh fa (8 * l + k)).toInt = w.1 (sp_s w j + 1 + k)
def hm_LN (rh : hm_Rh) (l : Nat) (w : sp_W) (x : sp_L) : Prop := (rh 10 l).toInt = x.1 ∧ (rh 11 l).toInt = x.2.1 ∧ (rh 12 l).toInt = x.2.2.1 ∧ (rh 13 l).toInt = x.2.2.2.1 ∧ (rh 16 l).toInt = x.2.2.2.2.1 ∧ hm_LT rh 14 5 l w x.2.2.2.2.2.1 x.2.2.2.2.2.2.2.1 ∧ hm_LT rh 15 6 l w x.2.2.2.2.2.2.1 x.2.2.2.2.2.2.2.2
def hm_LL (rh : hm_Rh) (base : Nat) (w : sp_W) (ls : List sp_L) : Prop := ls.length ≤ 60 ∧ ∀ (i : Nat) (x : sp_L), ls[i]? = some x → hm_LN rh (base + i) w x
theorem hm_LT.keep {rh rh1 : hm_Rh} {za fa l : Nat} {w : sp_W} {z : Int} {j : Nat} (h : hm_LT rh za fa l w z j) (h1 : rh1 za l = rh za l) (h2 : ∀ k, k < 8 → rh1 fa (8 * l + k) = rh fa (8 * l + k)) : hm_LT rh1 za fa l w z j := by
  obtain ⟨g1, g2, g3⟩ := h
  exact ⟨by rw [h1]; exact g1, g2, fun k hk => by rw [h2 k (by omega)]; exact g3 k hk⟩
theorem hm_LL.keep {rh rh1 : hm_Rh} {base : Nat} {w : sp_W} {ls : List sp_L} (h : hm_LL rh base w ls) (h1 : ∀ a i, 10 ≤ a → a ≤ 16 → base ≤ i → i < base + ls.length → rh1 a i = rh a i) (h2 : ∀ a i, 5 ≤ a → a ≤ 6 → 8 * base ≤ i → i < 8 * (base + ls.length) → rh1 a i = rh a i) : hm_LL rh1 base w ls := by
  refine ⟨h.1, fun i x hi => ?_⟩
  have hl := (List.getElem?_eq_some_iff.mp hi).1
  obtain ⟨g1, g2, g3, g4, g5, g6, g7⟩ := h.2 i x hi
  refine ⟨by rw [h1 10 _ (by omega) (by omega) (by omega) (by omega)]; exact g1, by rw [h1 11 _ (by omega) (by omega) (by omega) (by omega)]; exact g2, by rw [h1 12 _ (by omega) (by omega) (by omega) (by omega)]; exact g3, by rw [h1 13 _ (by omega) (by omega) (by omega) (by omega)]; exact g4, by rw [h1 16 _ (by omega) (by omega) (by omega) (by omega)]; exact g5, g6.keep (h1 14 _ (by omega) (by omega) (by omega) (by omega)) (fun k hk => h2 5 _ (by omega) (by omega) (by omega) (by omega)), g7.keep (h1 15 _ (by omega) (by omega) (by omega) (by omega)) (fun k hk => h2 6 _ (by omega) (by omega) (by omega) (by omega))⟩
theorem hm_LL.add {rh : hm_Rh} {base : Nat} {w : sp_W} {ls : List sp_L} {x : sp_L} (h : hm_LL rh base w ls) (hN : ls.length < 60) (hn : hm_LN rh (base + ls.length) w x) : hm_LL rh base w (ls ++ [x]) := by
  refine ⟨by simp; omega, fun i t2 hi => ?_⟩
  by_cases c : i < ls.length
  · rw [List.getElem?_append_left c] at hi
    exact h.2 i t2 hi
  · have hl : i < (ls ++ [x]).length := (List.getElem?_eq_some_iff.mp hi).1
    have hi2 : i = ls.length := by simp at hl; omega
    subst hi2
    rw [List.getElem?_append_right (Nat.le_refl _)] at hi
    simp at hi
    subst hi
    exact hn
theorem hm_LL.nil {rh : hm_Rh} {base : Nat} {w : sp_W} : hm_LL rh base w [] := ⟨Nat.zero_le _, fun i t h => by simp at h⟩
/-- the reference's book (d = 0: held, d = 1: the draft) is the pure book b -/
def hm_BK (rh : hm_Rh) (d : Nat) (w : sp_W) (b : sp_B) : Prop := (rh 0 d).toInt = (b.1.length : Int) ∧ (rh 1 d).toInt = (b.2.1.length : Int) ∧ (rh 2 d).toInt = (b.2.2.2.length : Int) ∧ hm_NL rh 8 4 (30 * d) 30 w b.2.1 ∧ (b.2.2.1.length = b.2.1.length ∧ ∀ (k : Nat) (x : Int), b.2.2.1[k]? = some x → (rh 9 (30 * d + k)).toInt = x) ∧ hm_LL rh (60 * d) w b.2.2.2
theorem hx_n8 {v : Int32} (h : -128 ≤ v.toInt ∧ v.toInt ≤ 127) : ((v : Int32).toInt8.toInt32).toInt = v.toInt := by
  rw [Int8.toInt_toInt32, Int32.toInt_toInt8]
  have h1 := Int.bmod_def v.toInt 256
  have h2 : ((256 : Nat) : Int) = 256 := rfl
  show v.toInt.bmod 256 = v.toInt
  rw [h1]
  split <;> omega
/-- only the draft's line l was written (and how many lines there are) -/
def hm_WL (l : Nat) (rh rh1 : hm_Rh) : Prop := ∀ a i, ¬ ((10 ≤ a ∧ i = l) ∨ ((a = 5 ∨ a = 6) ∧ 8 * l ≤ i ∧ i < 8 * l + 8) ∨ (a = 2 ∧ i = 1)) → rh1 a i = rh a i
theorem hm_WL.rf {l : Nat} {rh : hm_Rh} : hm_WL l rh rh := fun _ _ _ => rfl
theorem hm_WL.put {l a i : Nat} {v : Int32} {rh rh1 : hm_Rh} (h : hm_WL l rh rh1) (ha : (10 ≤ a ∧ i = l) ∨ (a = 2 ∧ i = 1)) : hm_WL l rh (hm_u2 rh1 a i v) := by
  intro b j hj
  rw [← h b j hj]
  by_cases c2 : b = a
  · subst c2
    exact hm_u2i (fun e => by subst e; exact hj (ha.elim Or.inl (fun g => Or.inr (Or.inr g))))
  · exact hm_u2a c2
theorem hm_WL.w {as : List Nat} {l : Nat} {rh rh1 rh2 : hm_Rh} (h : hm_WL l rh rh1) (h2 : hm_W as l rh1 rh2) (ha : ∀ a, a ∈ as → 10 ≤ a) : hm_WL l rh rh2 := fun b j hj => (h2 b j (fun g => hj (Or.inl ⟨ha b g.1, g.2⟩))).trans (h b j hj)
theorem hm_WL.l {A l : Nat} {rh rh1 rh2 : hm_Rh} (h : hm_WL l rh rh1) (h2 : ∀ a i : Nat, ¬ (a = A ∧ 8 * l ≤ i ∧ i < 8 * l + 8) → rh2 a i = rh1 a i) (hA : A = 5 ∨ A = 6) : hm_WL l rh rh2 := fun b j hj => (h2 b j (fun g => hj (Or.inr (Or.inl ⟨by rcases hA with e | e <;> omega, g.2⟩)))).trans (h b j hj)
theorem hm_W.H {as : List Nat} {l : Nat} {rh rh1 : hm_Rh} (h : hm_W as l rh rh1) (ha : ∀ a, a ∈ as → hm_half.getD a 0 ≤ l) : hm_H rh rh1 := fun a i hi => h a i (fun g => by have := ha a g.1; omega)

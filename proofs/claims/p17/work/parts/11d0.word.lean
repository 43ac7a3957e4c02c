/-! ===== THE REFERENCE'S WORD ===== -/
def hm_FT (rh : hm_Rh) (za fa l : Nat) (F : List Int) : Prop := (rh za l).toInt = (F.length : Int) ∧ F.length ≤ 8 ∧ ∀ (i : Nat) (x : Int), F[i]? = some x → (rh fa (8 * l + i)).toInt = x
theorem hm_LT.ft {rh : hm_Rh} {za fa l : Nat} {w : sp_W} {z : Int} {j : Nat} (h : hm_LT rh za fa l w z j) : hm_FT rh za fa l (sp_lw w z j) := by
  obtain ⟨h1, h2, h3⟩ := h
  have hl := sp_seg_len w.1 (sp_s w j + 1) (sp_s w j + 1 + z)
  have hl2 : (sp_lw w z j).length = z.toNat := by unfold sp_lw; rw [hl]; omega
  refine ⟨by rw [hl2]; omega, by omega, fun k x hk => ?_⟩
  have hk2 := (List.getElem?_eq_some_iff.mp hk).1
  rw [hl2] at hk2
  unfold sp_lw at hk
  rw [sp_seg_at _ _ _ k (by omega)] at hk
  rw [h3 k (by omega)]
  exact Option.some.inj hk
def sp_b8 (u : List Int) : Prop := ∀ (k : Nat) (x : Int), u[k]? = some x → -128 ≤ x ∧ x ≤ 127
theorem sp_b8.app {u v : List Int} (h : sp_b8 u) (h2 : sp_b8 v) : sp_b8 (u ++ v) := by
  intro k x hk
  by_cases c : k < u.length
  · rw [List.getElem?_append_left c] at hk; exact h k x hk
  · rw [List.getElem?_append_right (by omega)] at hk; exact h2 _ x hk
theorem sp_b8.take {u : List Int} (h : sp_b8 u) (n : Nat) : sp_b8 (u.take n) := by
  intro k x hk
  rw [List.getElem?_take] at hk
  split at hk
  · exact h k x hk
  · cases hk
theorem sp_b8.drop {u : List Int} (h : sp_b8 u) (n : Nat) : sp_b8 (u.drop n) := by
  intro k x hk
  rw [List.getElem?_drop] at hk
  exact h _ x hk
/-- the word with s instead of f at a -/
def sp_cg (f s u : List Int) (a : Nat) : List Int := u.take a ++ (s ++ u.drop (a + f.length))
theorem sp_cg_len {f s u : List Int} {a : Nat} (h : a + f.length ≤ u.length) : (sp_cg f s u a).length = u.length - f.length + s.length := by
  unfold sp_cg
  rw [List.length_append, List.length_append, List.length_take, List.length_drop]
  omega
theorem sp_cg_1 {f s u : List Int} {a k : Nat} (h : a + f.length ≤ u.length) (hk : k < a) : (sp_cg f s u a)[k]? = u[k]? := by
  unfold sp_cg
  rw [List.getElem?_append_left (by rw [List.length_take]; omega), List.getElem?_take, if_pos hk]
theorem sp_cg_2 {f s u : List Int} {a k : Nat} (h : a + f.length ≤ u.length) (hk : k < s.length) : (sp_cg f s u a)[a + k]? = s[k]? := by
  unfold sp_cg
  have hl : (u.take a).length = a := by rw [List.length_take]; omega
  rw [List.getElem?_append_right (by omega), hl, List.getElem?_append_left (by omega), Nat.add_sub_cancel_left]
theorem sp_cg_3 {f s u : List Int} {a k : Nat} (h : a + f.length ≤ u.length) (hk : a + f.length ≤ k) : (sp_cg f s u a)[s.length + k - f.length]? = u[k]? := by
  unfold sp_cg
  have hl : (u.take a).length = a := by rw [List.length_take]; omega
  rw [List.getElem?_append_right (by omega), hl, List.getElem?_append_right (by omega), List.getElem?_drop]
  congr 1
  omega
theorem sp_cg_b8 {f s u : List Int} {a : Nat} (h : sp_b8 u) (h2 : sp_b8 s) : sp_b8 (sp_cg f s u a) := (h.take a).app (h2.app (h.drop _))

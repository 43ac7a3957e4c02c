/-! ===== THE LINE THAT FITS, PURELY ===== -/
def sp_ft (x : sp_L) (k v c t p : Int) : Prop := x.1 = k ∧ x.2.2.1 = t ∧ (x.2.2.2.1 = -1 ∨ x.2.2.2.1 = p) ∧ (((k = 4 ∨ k = 5) ∧ x.2.1 = v) ∨ (¬ (k = 4 ∨ k = 5) ∧ (x.2.1 = -1 ∨ x.2.1 = c)))
noncomputable def sp_nf (k v c t p : Int) : List sp_L → Int → Int
  | [], _ => -1
  | x :: xs, i => @ite Int (sp_ft x k v c t p) (Classical.propDecidable _) i (sp_nf k v c t p xs (i + 1))
theorem sp_nf_y {k v c t p : Int} {ls : List sp_L} {n : Nat} {x : sp_L} {i : Int} (hi : ls[n]? = some x) (h : sp_ft x k v c t p) : sp_nf k v c t p (ls.drop n) i = i := by
  obtain ⟨hl, he⟩ := List.getElem?_eq_some_iff.mp hi
  rw [List.drop_eq_getElem_cons hl, he]
  simp only [sp_nf]
  rw [if_pos h]
theorem sp_nf_n {k v c t p : Int} {ls : List sp_L} {n : Nat} {x : sp_L} {i : Int} (hi : ls[n]? = some x) (h : ¬ sp_ft x k v c t p) : sp_nf k v c t p (ls.drop n) i = sp_nf k v c t p (ls.drop (n + 1)) (i + 1) := by
  obtain ⟨hl, he⟩ := List.getElem?_eq_some_iff.mp hi
  rw [List.drop_eq_getElem_cons hl, he]
  simp only [sp_nf]
  rw [if_neg h]
theorem sp_nf_o {k v c t p : Int} {ls : List sp_L} {n : Nat} {i : Int} (h : ls.length ≤ n) : sp_nf k v c t p (ls.drop n) i = -1 := by
  rw [List.drop_eq_nil_of_le h]
  rfl
theorem sp_nf_rg {k v c t p : Int} (ls : List sp_L) : ∀ i : Int, 0 ≤ i → (sp_nf k v c t p ls i = -1 ∨ (i ≤ sp_nf k v c t p ls i ∧ sp_nf k v c t p ls i < i + ls.length ∧ ∃ x, ls[(sp_nf k v c t p ls i - i).toNat]? = some x ∧ sp_ft x k v c t p)) := by
  induction ls with
  | nil => intro i hi; exact Or.inl rfl
  | cons y ls ih =>
    intro i hi
    by_cases c9 : sp_ft y k v c t p
    · have e : sp_nf k v c t p (y :: ls) i = i := by simp only [sp_nf]; rw [if_pos c9]
      rw [e]
      refine Or.inr ⟨Int.le_refl _, by simp only [List.length_cons]; omega, y, by rw [Int.sub_self]; rfl, c9⟩
    · have e : sp_nf k v c t p (y :: ls) i = sp_nf k v c t p ls (i + 1) := by simp only [sp_nf]; rw [if_neg c9]
      rw [e]
      rcases ih (i + 1) (by omega) with h | ⟨h1, h2, x, h3, h4⟩
      · exact Or.inl h
      · refine Or.inr ⟨by omega, by simp only [List.length_cons]; omega, x, ?_, h4⟩
        rw [show (sp_nf k v c t p ls (i + 1) - i).toNat = (sp_nf k v c t p ls (i + 1) - (i + 1)).toNat + 1 by omega, List.getElem?_cons_succ]
        exact h3

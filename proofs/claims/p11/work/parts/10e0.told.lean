/-! ===== WHAT verb, line AND rivals TELL, PURELY ===== -/
theorem sp_getD {α : Type} {l : List α} {i : Nat} {x d : α} (h : l[i]? = some x) : l.getD i d = x := by rw [List.getD_eq_getElem?_getD, h]; rfl
section SPV
variable {w : sp_W} {b : sp_B} {v k : Int} {t : Nat} {c : Int}
end SPV
def sp_riv (c t p : Int) : List sp_L → Int → Int
  | [], k => k
  | x :: xs, k => sp_riv c t p xs (if x.1 = 1 ∧ x.2.2.1 = t ∧ (x.2.2.2.1 = -1 ∨ x.2.2.2.1 = p) ∧ (x.2.1 = -1 ∨ x.2.1 = c) then k + 1 else k)
theorem sp_riv_go {c t p : Int} {ls : List sp_L} {i : Nat} {x : sp_L} (hi : ls[i]? = some x) (k : Int) : sp_riv c t p (ls.drop i) k = sp_riv c t p (ls.drop (i + 1)) (if x.1 = 1 ∧ x.2.2.1 = t ∧ (x.2.2.2.1 = -1 ∨ x.2.2.2.1 = p) ∧ (x.2.1 = -1 ∨ x.2.1 = c) then k + 1 else k) := by
  obtain ⟨hl, he⟩ := List.getElem?_eq_some_iff.mp hi
  rw [List.drop_eq_getElem_cons hl, he]
  rfl
theorem sp_riv_out {c t p : Int} {ls : List sp_L} {i : Nat} (hi : ls.length ≤ i) (k : Int) : sp_riv c t p (ls.drop i) k = k := by
  rw [List.drop_eq_nil_of_le hi]
  rfl
/-- rivals, purely -/
def sp_rivt (b : sp_B) (v t p : Int) : Int := if 0 ≤ v ∧ v < (b.2.1.length : Int) ∧ 0 ≤ t ∧ t < 5 ∧ 0 ≤ p ∧ p < 6 then sp_riv (b.2.2.1.getD v.toNat 0) t p b.2.2.2 0 else -2

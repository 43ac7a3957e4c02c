/-! ===== WHAT verb, line AND rivals TELL, PURELY ===== -/
theorem sp_getD {α : Type} {l : List α} {i : Nat} {x d : α} (h : l[i]? = some x) : l.getD i d = x := by rw [List.getD_eq_getElem?_getD, h]; rfl
section SPV
variable {w : sp_W} {b : sp_B} {v k : Int} {t : Nat} {c : Int}
end SPV

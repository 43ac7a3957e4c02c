/-! ===== WHAT verb, line AND rivals TELL, PURELY ===== -/
theorem sp_getD {α : Type} {l : List α} {i : Nat} {x d : α} (h : l[i]? = some x) : l.getD i d = x := by rw [List.getD_eq_getElem?_getD, h]; rfl
section SPV
variable {w : sp_W} {b : sp_B} {v k : Int} {t : Nat} {c : Int}
end SPV
def sp_lnx (x : sp_L) (k : Int) : Int := if k = 0 then x.1 else if k = 1 then x.2.1 else if k = 2 then x.2.2.1 else if k = 3 then x.2.2.2.1 else if k = 4 then x.2.2.2.2.2.1 else if k = 5 then x.2.2.2.2.2.2.1 else if k = 6 then x.2.2.2.2.1 else -9
def sp_lnt (b : sp_B) (v k : Int) : Int := if ¬ (0 ≤ v ∧ v < (b.2.2.2.length : Int)) then -9 else sp_lnx (b.2.2.2.getD v.toNat sp_ln0) k
theorem sp_lnt_o {b : sp_B} {v k : Int} (h : ¬ (0 ≤ v ∧ v < (b.2.2.2.length : Int))) : sp_lnt b v k = -9 := by unfold sp_lnt; rw [if_pos h]
theorem sp_lnt_i {b : sp_B} {v k : Int} {x : sp_L} (h : 0 ≤ v ∧ v < (b.2.2.2.length : Int)) (hx : b.2.2.2[v.toNat]? = some x) : sp_lnt b v k = sp_lnx x k := by unfold sp_lnt; rw [if_neg (fun g => g h), sp_getD hx]

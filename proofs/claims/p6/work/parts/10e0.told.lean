/-! ===== WHAT verb, line AND rivals TELL, PURELY ===== -/
theorem sp_getD {α : Type} {l : List α} {i : Nat} {x d : α} (h : l[i]? = some x) : l.getD i d = x := by rw [List.getD_eq_getElem?_getD, h]; rfl
def sp_verb (w : sp_W) (b : sp_B) (v k : Int) : Int := if ¬ (0 ≤ v ∧ v < (b.2.1.length : Int)) then -1 else if k = 0 then b.2.2.1.getD v.toNat 0 else if k = 1 then sp_e w (b.2.1.getD v.toNat 0) - sp_s w (b.2.1.getD v.toNat 0) else if 10 ≤ k ∧ k - 10 < sp_e w (b.2.1.getD v.toNat 0) - sp_s w (b.2.1.getD v.toNat 0) then w.1 (sp_s w (b.2.1.getD v.toNat 0) + (k - 10)) else -1
section SPV
variable {w : sp_W} {b : sp_B} {v k : Int} {t : Nat} {c : Int}
theorem sp_verb_o (h : ¬ (0 ≤ v ∧ v < (b.2.1.length : Int))) : sp_verb w b v k = -1 := by unfold sp_verb; rw [if_pos h]
theorem sp_verb_0 (h : 0 ≤ v ∧ v < (b.2.1.length : Int)) (hk : k = 0) (hc : b.2.2.1[v.toNat]? = some c) : sp_verb w b v k = c := by unfold sp_verb; rw [if_neg (fun g => g h), if_pos hk, sp_getD hc]
theorem sp_verb_1 (h : 0 ≤ v ∧ v < (b.2.1.length : Int)) (hk : k = 1) (ht : b.2.1[v.toNat]? = some t) : sp_verb w b v k = sp_e w t - sp_s w t := by unfold sp_verb; rw [if_neg (fun g => g h), if_neg (by omega), if_pos hk, sp_getD ht]
theorem sp_verb_n (h : 0 ≤ v ∧ v < (b.2.1.length : Int)) (hk : ¬ k = 0 ∧ ¬ k = 1) (ht : b.2.1[v.toNat]? = some t) (h2 : ¬ (10 ≤ k ∧ k - 10 < sp_e w t - sp_s w t)) : sp_verb w b v k = -1 := by unfold sp_verb; rw [if_neg (fun g => g h), if_neg hk.1, if_neg hk.2, sp_getD ht, if_neg h2]
theorem sp_verb_l (h : 0 ≤ v ∧ v < (b.2.1.length : Int)) (ht : b.2.1[v.toNat]? = some t) (h2 : 10 ≤ k ∧ k - 10 < sp_e w t - sp_s w t) : sp_verb w b v k = w.1 (sp_s w t + (k - 10)) := by unfold sp_verb; rw [if_neg (fun g => g h), if_neg (by omega), if_neg (by omega), sp_getD ht, if_pos h2]
end SPV

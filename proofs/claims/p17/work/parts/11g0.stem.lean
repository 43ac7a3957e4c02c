/-! ===== STEM AND ENDING ===== -/
section SPST
variable {w : sp_W} {b : sp_B} {nm : List Int} {s : Int} {x : sp_L}
theorem sp_stm_0 (h : s = -1) : sp_stm w b nm s = nm := by unfold sp_stm; rw [if_pos h]
theorem sp_stm_n (h : ¬ s = -1) (hx : b.2.2.2[s.toNat]? = some x) (h2 : sp_lp (sp_F w x) nm = -1) : sp_stm w b nm s = nm := by unfold sp_stm; rw [if_neg h, sp_getD hx, if_pos h2]
theorem sp_stm_y (h : ¬ s = -1) (hx : b.2.2.2[s.toNat]? = some x) (h2 : ¬ sp_lp (sp_F w x) nm = -1) : sp_stm w b nm s = sp_cg (sp_F w x) (sp_S2 w x) nm (sp_lp (sp_F w x) nm).toNat := by unfold sp_stm; rw [if_neg h, sp_getD hx, if_neg h2]
theorem sp_end_0 (h : s = -1) : sp_end w b nm s = nm := by unfold sp_end; rw [if_pos h]
theorem sp_end_y (h : ¬ s = -1) (hx : b.2.2.2[s.toNat]? = some x) : sp_end w b nm s = nm ++ sp_F w x := by unfold sp_end; rw [if_neg h, sp_getD hx]
end SPST
theorem sp_lp_in {f u : List Int} (hf : 0 < f.length) (h : ¬ sp_lp f u = -1) : 0 ≤ sp_lp f u ∧ sp_lp f u + (f.length : Int) ≤ (u.length : Int) ∧ sp_pf f (u.drop (sp_lp f u).toNat) = true := by
  unfold sp_lp at h ⊢
  rcases sp_lpg_rg f u u.length with g | ⟨g1, g2, g3⟩
  · exact absurd g h
  · have h9 := ((sp_pf_iff f _).mp g3).1
    rw [List.length_drop] at h9
    exact ⟨g1, by omega, g3⟩

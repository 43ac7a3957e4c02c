set_option maxHeartbeats 4000000 in
set_option maxRecDepth 100000 in
theorem x_isLn (l : Launch) (D : va_G) (cs : Nat → ClassId) (B : Nat) (G : hq_G) (V : hp_V) (n : Nat) (hI : hq_I cs G V) (k : Int32) : hp_M l yX11_isLearner cX11_isLearner 1 (some .boolean) ({ frames := 1, cells := 0, slots := 0, locals := 21 }) D cs B V n [.int (k)] (hp_QI D cs B (fun r V' n' => n = n' ∧ V = V' ∧ ((r.toInt = 1 ∧ 0 ≤ k.toInt ∧ k.toInt < 8) ∨ (r.toInt = 0 ∧ ¬ (0 ≤ k.toInt ∧ k.toInt < 8))))) 0 0 := by
  refine hp_walk (R0 := RX11) (by decide) rfl ?_ (Nat.le_of_ble_eq_true rfl)
  intro p e s m below meth c ls hx hb hr hts hown hlocks hin hml hZ hl
  have hP : hq_I cs G V := hI
  have hl : lv_has ls 1 [(0, .int (k))] := hl
  have hb_k := hq_rng k
  refine lv_iload_n hx hb dX11_isLearner_0 rfl (lv_at hl 0 rfl) ?_
  refine lv_if_lt (tgt := 14) hx hb dX11_isLearner_1 (by decide) (fun c1 => ?_) (fun c1 => ?_)
  · have c1 : (k).toInt < (0 : Int) := hq_lti.mp c1
    refine lv_iconst (v := 0) hx hb dX11_isLearner_14 (by decide) ?_
    have hl2 : (0 : Int32).toInt = 0 := by decide
    exact hp_zret hx hb hr rfl hlocks hZ ⟨rfl, rfl, (by omega)⟩ dX11_isLearner_15
  · have c1 : ¬ (k).toInt < (0 : Int) := fun h9 => c1 (hq_lti.mpr h9)
    refine lv_iload_n hx hb dX11_isLearner_4 rfl (lv_at hl 0 rfl) ?_
    refine lv_bipush (v := 8) hx hb dX11_isLearner_5 (by decide) ?_
    refine lv_icmp_ge (tgt := 14) hx hb dX11_isLearner_7 (by decide) (fun c3 => ?_) (fun c3 => ?_)
    · have c3 : (8 : Int) ≤ (k).toInt := hq_lei.mp c3
      refine lv_iconst (v := 0) hx hb dX11_isLearner_14 (by decide) ?_
      have hl4 : (0 : Int32).toInt = 0 := by decide
      exact hp_zret hx hb hr rfl hlocks hZ ⟨rfl, rfl, (by omega)⟩ dX11_isLearner_15
    · have c3 : ¬ (8 : Int) ≤ (k).toInt := fun h9 => c3 (hq_lei.mpr h9)
      refine lv_iconst (v := 1) hx hb dX11_isLearner_10 (by decide) ?_
      refine lv_goto (tgt := 15) hx hb dX11_isLearner_11 (by decide) ?_
      have hl5 : (1 : Int32).toInt = 1 := by decide
      exact hp_zret hx hb hr rfl hlocks hZ ⟨rfl, rfl, (by omega)⟩ dX11_isLearner_15

set_option maxHeartbeats 4000000 in
set_option maxRecDepth 100000 in
theorem y_isLn (l : Launch) (D : va_G) (cs : Nat → ClassId) (B : Nat) (G : hq_G) (V : hp_V) (n : Nat) (hI : hq_I cs G V) (k : Int32) : hp_M l yX13_isLearner cX13_isLearner 1 (some .boolean) ({ frames := 2, cells := 0, slots := 0, locals := 46 }) D cs B V n [.int (k)] (hp_QI D cs B (fun r V' n' => n = n' ∧ V = V' ∧ ((r.toInt = 1 ∧ 0 ≤ k.toInt ∧ k.toInt < 8) ∨ (r.toInt = 0 ∧ ¬ (0 ≤ k.toInt ∧ k.toInt < 8))))) 0 0 := by
  refine hp_walk (R0 := RX13) (by decide) rfl ?_ (Nat.le_of_ble_eq_true rfl)
  intro p e s m below meth c ls hx hb hr hts hown hlocks hin hml hZ hl
  have hP : hq_I cs G V := hI
  have hl : lv_has ls 1 [(0, .int (k))] := hl
  have hb_k := hq_rng k
  have hL0 : (0 : Int64).toInt = 0 := by decide
  have hL1 : (1 : Int64).toInt = 1 := by decide
  have hL4 : (4 : Int64).toInt = 4 := by decide
  have hL5 : (5 : Int64).toInt = 5 := by decide
  have hL7 : (7 : Int64).toInt = 7 := by decide
  have hL9 : (9 : Int64).toInt = 9 := by decide
  have hL10 : (10 : Int64).toInt = 10 := by decide
  have hL19 : (19 : Int64).toInt = 19 := by decide
  have hL20 : (20 : Int64).toInt = 20 := by decide
  have hL29 : (29 : Int64).toInt = 29 := by decide
  have hL30 : (30 : Int64).toInt = 30 := by decide
  refine lv_iload_n hx hb dX13_isLearner_0 rfl (lv_at hl 0 rfl) ?_
  refine lv_i2l (v := (k).toInt64) hx hb dX13_isLearner_1 rfl ?_
  refine lv_topl (fun y1 ey2 => ?_)
  have b3 : (y1).toInt = (k).toInt := by rw [ey2]; exact hm_i2l _
  refine lv_lconst (v := 0) hx hb dX13_isLearner_2 (by decide) ?_
  refine lv_ldc2 (v := 7) hx hb hown (hts _ k64_X13_451) dX13_isLearner_3 ?_
  refine hp_calli (hp_runS (As := [.long (y1), .long (0), .long (7)]) (rest := []) hx hb hml hown hts (y_in l D cs B G V n hP (y1) (0) (7)    ) hZ cv_X13_301 rfl rfl ⟨Nat.le_of_ble_eq_true rfl, Nat.le_of_ble_eq_true rfl⟩ rfl hl.1 rfl (Nat.le_of_ble_eq_true rfl) dX13_isLearner_6 ⟨(Nat.le_of_ble_eq_true rfl), (Nat.le_of_ble_eq_true rfl)⟩) hZ (fun r7 V4 n5 _ _ hw6 hZ => ?_)
  obtain ⟨rfl, rfl, hp10⟩ := hw6
  have b11 := hq_rng r7
  exact hp_zret hx hb hr (hq_nzi (by omega) (by omega)) hlocks hZ ⟨rfl, rfl, (by omega)⟩ dX13_isLearner_9

set_option maxHeartbeats 4000000 in
set_option maxRecDepth 100000 in
theorem y_in (l : Launch) (D : va_G) (cs : Nat → ClassId) (B : Nat) (G : hq_G) (V : hp_V) (n : Nat) (hI : hq_I cs G V) (l1 : Int64) (l2 : Int64) (l3 : Int64) : hp_M l yX13_in cX13_in 6 (some .boolean) ({ frames := 1, cells := 0, slots := 0, locals := 21 }) D cs B V n [.long (l1), .long (l2), .long (l3)] (hp_QI D cs B (fun r V' n' => n = n' ∧ V = V' ∧ ((r.toInt = 1 ∧ l2.toInt ≤ l1.toInt ∧ l1.toInt ≤ l3.toInt) ∨ (r.toInt = 0 ∧ ¬ (l2.toInt ≤ l1.toInt ∧ l1.toInt ≤ l3.toInt))))) 0 0 := by
  refine hp_walk (R0 := RX13) (by decide) rfl ?_ (Nat.le_of_ble_eq_true rfl)
  intro p e s m below meth c ls hx hb hr hts hown hlocks hin hml hZ hl
  have hP : hq_I cs G V := hI
  have hl : lv_has ls 6 [(0, .long (l1)), (2, .long (l2)), (4, .long (l3))] := hl
  refine lv_lload_n hx hb dX13_in_0 rfl (lv_at hl 0 rfl) ?_
  refine lv_lload_n hx hb dX13_in_1 rfl (lv_at hl 1 rfl) ?_
  refine W.lcmp hx hb dX13_in_2 ?_
  refine lv_topi (fun y1 ey2 => ?_)
  have b3 := hm_cmp (l1) (l2)
  rw [← ey2] at b3
  refine lv_if_lt (tgt := 17) hx hb dX13_in_3 (by decide) (fun c4 => ?_) (fun c4 => ?_)
  · have c4 : (y1).toInt < (0 : Int) := hq_lti.mp c4
    refine lv_iconst (v := 0) hx hb dX13_in_17 (by decide) ?_
    have hl5 : (0 : Int32).toInt = 0 := by decide
    exact hp_zret hx hb hr rfl hlocks hZ ⟨rfl, rfl, (by omega)⟩ dX13_in_18
  · have c4 : ¬ (y1).toInt < (0 : Int) := fun h9 => c4 (hq_lti.mpr h9)
    refine lv_lload_n hx hb dX13_in_6 rfl (lv_at hl 0 rfl) ?_
    refine lv_lload hx hb dX13_in_7 (lv_at hl 2 rfl) ?_
    refine W.lcmp hx hb dX13_in_9 ?_
    refine lv_topi (fun y6 ey7 => ?_)
    have b8 := hm_cmp (l1) (l3)
    rw [← ey7] at b8
    refine lv_if_gt (tgt := 17) hx hb dX13_in_10 (by decide) (fun c9 => ?_) (fun c9 => ?_)
    · have c9 : (0 : Int) < (y6).toInt := hq_lti.mp c9
      refine lv_iconst (v := 0) hx hb dX13_in_17 (by decide) ?_
      have hl10 : (0 : Int32).toInt = 0 := by decide
      exact hp_zret hx hb hr rfl hlocks hZ ⟨rfl, rfl, (by omega)⟩ dX13_in_18
    · have c9 : ¬ (0 : Int) < (y6).toInt := fun h9 => c9 (hq_lti.mpr h9)
      refine lv_iconst (v := 1) hx hb dX13_in_13 (by decide) ?_
      refine lv_goto (tgt := 18) hx hb dX13_in_14 (by decide) ?_
      have hl11 : (1 : Int32).toInt = 1 := by decide
      exact hp_zret hx hb hr rfl hlocks hZ ⟨rfl, rfl, (by omega)⟩ dX13_in_18

set_option maxHeartbeats 4000000 in
set_option maxRecDepth 100000 in
theorem y_isVerb (l : Launch) (D : va_G) (cs : Nat → ClassId) (B : Nat) (G : hq_G) (V : hp_V) (n : Nat) (hI : hq_I cs G V) (q : Nat) (mo : Nat) (rh : hm_Rh) (m_tp : Int32) (m_sz : Int32) (m_fr : Int32) (m_bh : Int32) (m_hd : Int32) (m_ft : Int32) (m_fa : Int32) (m_le : Int32) (m_fo : Int32) (m_as : Int32) (m_fd : Int32) (m_bc : Int32) (m_bg : Int32) (m_bs : Int32) (m_be : Int32) (m_b0 : Int32) (m_b1 : Int32) (m_cm : Int32) (m_hc : Int32) (v : Int32) (hc0 : V (mo) = some (.inr (13, hm_o q (m_tp) (m_sz) (m_fr) (m_bh) (m_hd) (m_ft) (m_fa) (m_le) (m_fo) (m_as) (m_fd) (m_bc) (m_bg) (m_bs) (m_be) (m_b0) (m_b1) (m_cm) (m_hc)))) (hp0 : hm_AR cs V q rh) (hR : hq_RT G q) (hmo : G mo = some (24, 0, 0, 0)) : hp_M l yX13_isVerb cX13_isVerb 2 (some .boolean) ({ frames := 2, cells := 0, slots := 0, locals := 46 }) D cs B V n [.ref (mo), .int (v)] (hp_QI D cs B (fun r V' n' => n = n' ∧ V = V' ∧ ((r.toInt = 1 ∧ 0 ≤ v.toInt ∧ v.toInt < (rh 1 0).toInt) ∨ (r.toInt = 0 ∧ ¬ (0 ≤ v.toInt ∧ v.toInt < (rh 1 0).toInt))))) 0 0 := by
  refine hp_walk (R0 := RX13) (by decide) rfl ?_ (Nat.le_of_ble_eq_true rfl)
  intro p e s m below meth c ls hx hb hr hts hown hlocks hin hml hZ hl
  have hP : hq_I cs G V := hI
  have hl : lv_has ls 2 [(0, .ref (mo)), (1, .int (v))] := hl
  have hb_m_tp := hq_rng m_tp
  have hb_m_sz := hq_rng m_sz
  have hb_m_fr := hq_rng m_fr
  have hb_m_bh := hq_rng m_bh
  have hb_m_hd := hq_rng m_hd
  have hb_m_ft := hq_rng m_ft
  have hb_m_fa := hq_rng m_fa
  have hb_m_le := hq_rng m_le
  have hb_m_fo := hq_rng m_fo
  have hb_m_as := hq_rng m_as
  have hb_m_fd := hq_rng m_fd
  have hb_m_bc := hq_rng m_bc
  have hb_m_bg := hq_rng m_bg
  have hb_m_bs := hq_rng m_bs
  have hb_m_be := hq_rng m_be
  have hb_m_b0 := hq_rng m_b0
  have hb_m_b1 := hq_rng m_b1
  have hb_m_cm := hq_rng m_cm
  have hb_m_hc := hq_rng m_hc
  have hb_v := hq_rng v
  have hL0 : (0 : Int64).toInt = 0 := by decide
  have hL1 : (1 : Int64).toInt = 1 := by decide
  have hL4 : (4 : Int64).toInt = 4 := by decide
  have hL5 : (5 : Int64).toInt = 5 := by decide
  have hL9 : (9 : Int64).toInt = 9 := by decide
  have hL10 : (10 : Int64).toInt = 10 := by decide
  refine lv_iload_n hx hb dX13_isVerb_0 rfl (lv_at hl 1 rfl) ?_
  refine lv_i2l (v := (v).toInt64) hx hb dX13_isVerb_1 rfl ?_
  refine lv_topl (fun y1 ey2 => ?_)
  have b3 : (y1).toInt = (v).toInt := by rw [ey2]; exact hm_i2l _
  refine lv_lconst (v := 0) hx hb dX13_isVerb_2 (by decide) ?_
  refine lv_aload_n hx hb dX13_isVerb_3 rfl (lv_at hl 0 rfl) ?_
  refine hp_get (v := .ref (q + 1)) hx hb hts hown hZ hc0 fl_X13_7 rfl dX13_isVerb_4 ?_
  refine lv_iconst (v := 0) hx hb dX13_isVerb_7 (by decide) ?_
  obtain ⟨rf4, hrf5⟩ : ∃ f : Nat → Int32, f = rh 1 := ⟨_, rfl⟩
  have ea6 : V (q + 1) = some (.inl (cs 1, 2, .inl (rf4))) := by rw [hrf5]; exact hp0 1 (by decide)
  have hra7 := hq_rg hP (hr_1 hR) ea6
  refine hp_iald hx hb hZ ea6 (by unfold vp_in; decide) dX13_isVerb_8 ?_
  refine lv_topi (fun y8 ey9 => ?_)
  have b10 : hq_ir (hq_lo 9) (hq_hi 9) y8 := by rw [ey9]; exact hra7 _ (by decide)
  have b10 : 0 ≤ (y8).toInt ∧ (y8).toInt ≤ 30 := b10
  have b11 : (y8).toInt = (rh 1 0).toInt := by rw [ey9, hrf5]; rfl
  refine lv_i2l (v := (y8).toInt64) hx hb dX13_isVerb_9 rfl ?_
  refine lv_topl (fun y12 ey13 => ?_)
  have b14 : (y12).toInt = (y8).toInt := by rw [ey13]; exact hm_i2l _
  refine lv_lconst (v := 1) hx hb dX13_isVerb_10 (by decide) ?_
  refine lv_lsub hx hb dX13_isVerb_11 ?_
  refine lv_topl (fun y15 ey16 => ?_)
  have b18 : (1 : Int64).toInt = 1 := by decide
  have b17 : (y15).toInt = (y12).toInt - (1 : Int) := by rw [ey16]; exact hm_lsub _ _ (by omega) (by omega)
  refine hp_calli (hp_runS (As := [.long (y1), .long (0), .long (y15)]) (rest := []) hx hb hml hown hts (y_in l D cs B G V n hP (y1) (0) (y15)    ) hZ cv_X13_301 rfl rfl ⟨Nat.le_of_ble_eq_true rfl, Nat.le_of_ble_eq_true rfl⟩ rfl hl.1 rfl (Nat.le_of_ble_eq_true rfl) dX13_isVerb_12 ⟨(Nat.le_of_ble_eq_true rfl), (Nat.le_of_ble_eq_true rfl)⟩) hZ (fun r22 V19 n20 _ _ hw21 hZ => ?_)
  obtain ⟨rfl, rfl, hp25⟩ := hw21
  have b26 := hq_rng r22
  exact hp_zret hx hb hr (hq_nzi (by omega) (by omega)) hlocks hZ ⟨rfl, rfl, (by omega)⟩ dX13_isVerb_15

set_option maxHeartbeats 4000000 in
set_option maxRecDepth 100000 in
theorem y_isLine (l : Launch) (D : va_G) (cs : Nat → ClassId) (B : Nat) (G : hq_G) (V : hp_V) (n : Nat) (hI : hq_I cs G V) (q : Nat) (mo : Nat) (rh : hm_Rh) (m_tp : Int32) (m_sz : Int32) (m_fr : Int32) (m_bh : Int32) (m_hd : Int32) (m_ft : Int32) (m_fa : Int32) (m_le : Int32) (m_fo : Int32) (m_as : Int32) (m_fd : Int32) (m_bc : Int32) (m_bg : Int32) (m_bs : Int32) (m_be : Int32) (m_b0 : Int32) (m_b1 : Int32) (m_cm : Int32) (m_hc : Int32) (v : Int32) (hc0 : V (mo) = some (.inr (13, hm_o q (m_tp) (m_sz) (m_fr) (m_bh) (m_hd) (m_ft) (m_fa) (m_le) (m_fo) (m_as) (m_fd) (m_bc) (m_bg) (m_bs) (m_be) (m_b0) (m_b1) (m_cm) (m_hc)))) (hp0 : hm_AR cs V q rh) (hR : hq_RT G q) (hmo : G mo = some (24, 0, 0, 0)) : hp_M l yX13_isLine cX13_isLine 2 (some .boolean) ({ frames := 2, cells := 0, slots := 0, locals := 46 }) D cs B V n [.ref (mo), .int (v)] (hp_QI D cs B (fun r V' n' => n = n' ∧ V = V' ∧ ((r.toInt = 1 ∧ 0 ≤ v.toInt ∧ v.toInt < (rh 2 0).toInt) ∨ (r.toInt = 0 ∧ ¬ (0 ≤ v.toInt ∧ v.toInt < (rh 2 0).toInt))))) 0 0 := by
  refine hp_walk (R0 := RX13) (by decide) rfl ?_ (Nat.le_of_ble_eq_true rfl)
  intro p e s m below meth c ls hx hb hr hts hown hlocks hin hml hZ hl
  have hP : hq_I cs G V := hI
  have hl : lv_has ls 2 [(0, .ref (mo)), (1, .int (v))] := hl
  have hb_m_tp := hq_rng m_tp
  have hb_m_sz := hq_rng m_sz
  have hb_m_fr := hq_rng m_fr
  have hb_m_bh := hq_rng m_bh
  have hb_m_hd := hq_rng m_hd
  have hb_m_ft := hq_rng m_ft
  have hb_m_fa := hq_rng m_fa
  have hb_m_le := hq_rng m_le
  have hb_m_fo := hq_rng m_fo
  have hb_m_as := hq_rng m_as
  have hb_m_fd := hq_rng m_fd
  have hb_m_bc := hq_rng m_bc
  have hb_m_bg := hq_rng m_bg
  have hb_m_bs := hq_rng m_bs
  have hb_m_be := hq_rng m_be
  have hb_m_b0 := hq_rng m_b0
  have hb_m_b1 := hq_rng m_b1
  have hb_m_cm := hq_rng m_cm
  have hb_m_hc := hq_rng m_hc
  have hb_v := hq_rng v
  have hL0 : (0 : Int64).toInt = 0 := by decide
  have hL1 : (1 : Int64).toInt = 1 := by decide
  have hL4 : (4 : Int64).toInt = 4 := by decide
  have hL5 : (5 : Int64).toInt = 5 := by decide
  have hL9 : (9 : Int64).toInt = 9 := by decide
  have hL10 : (10 : Int64).toInt = 10 := by decide
  refine lv_iload_n hx hb dX13_isLine_0 rfl (lv_at hl 1 rfl) ?_
  refine lv_i2l (v := (v).toInt64) hx hb dX13_isLine_1 rfl ?_
  refine lv_topl (fun y1 ey2 => ?_)
  have b3 : (y1).toInt = (v).toInt := by rw [ey2]; exact hm_i2l _
  refine lv_lconst (v := 0) hx hb dX13_isLine_2 (by decide) ?_
  refine lv_aload_n hx hb dX13_isLine_3 rfl (lv_at hl 0 rfl) ?_
  refine hp_get (v := .ref (q + 2)) hx hb hts hown hZ hc0 fl_X13_10 rfl dX13_isLine_4 ?_
  refine lv_iconst (v := 0) hx hb dX13_isLine_7 (by decide) ?_
  obtain ⟨rf4, hrf5⟩ : ∃ f : Nat → Int32, f = rh 2 := ⟨_, rfl⟩
  have ea6 : V (q + 2) = some (.inl (cs 1, 2, .inl (rf4))) := by rw [hrf5]; exact hp0 2 (by decide)
  have hra7 := hq_rg hP (hr_2 hR) ea6
  refine hp_iald hx hb hZ ea6 (by unfold vp_in; decide) dX13_isLine_8 ?_
  refine lv_topi (fun y8 ey9 => ?_)
  have b10 : hq_ir (hq_lo 8) (hq_hi 8) y8 := by rw [ey9]; exact hra7 _ (by decide)
  have b10 : 0 ≤ (y8).toInt ∧ (y8).toInt ≤ 60 := b10
  have b11 : (y8).toInt = (rh 2 0).toInt := by rw [ey9, hrf5]; rfl
  refine lv_i2l (v := (y8).toInt64) hx hb dX13_isLine_9 rfl ?_
  refine lv_topl (fun y12 ey13 => ?_)
  have b14 : (y12).toInt = (y8).toInt := by rw [ey13]; exact hm_i2l _
  refine lv_lconst (v := 1) hx hb dX13_isLine_10 (by decide) ?_
  refine lv_lsub hx hb dX13_isLine_11 ?_
  refine lv_topl (fun y15 ey16 => ?_)
  have b18 : (1 : Int64).toInt = 1 := by decide
  have b17 : (y15).toInt = (y12).toInt - (1 : Int) := by rw [ey16]; exact hm_lsub _ _ (by omega) (by omega)
  refine hp_calli (hp_runS (As := [.long (y1), .long (0), .long (y15)]) (rest := []) hx hb hml hown hts (y_in l D cs B G V n hP (y1) (0) (y15)    ) hZ cv_X13_301 rfl rfl ⟨Nat.le_of_ble_eq_true rfl, Nat.le_of_ble_eq_true rfl⟩ rfl hl.1 rfl (Nat.le_of_ble_eq_true rfl) dX13_isLine_12 ⟨(Nat.le_of_ble_eq_true rfl), (Nat.le_of_ble_eq_true rfl)⟩) hZ (fun r22 V19 n20 _ _ hw21 hZ => ?_)
  obtain ⟨rfl, rfl, hp25⟩ := hw21
  have b26 := hq_rng r22
  exact hp_zret hx hb hr (hq_nzi (by omega) (by omega)) hlocks hZ ⟨rfl, rfl, (by omega)⟩ dX13_isLine_15

set_option maxHeartbeats 4000000 in
set_option maxRecDepth 100000 in
theorem y_isLn (l : Launch) (D : va_G) (cs : Nat → ClassId) (B : Nat) (G : hq_G) (V : hp_V) (n : Nat) (hI : hq_I cs G V) (k : Int32) : hp_M l yX13_isLearner cX13_isLearner 1 (some .boolean) ({ frames := 2, cells := 0, slots := 0, locals := 46 }) D cs B V n [.int (k)] (hp_QI D cs B (fun r V' n' => n = n' ∧ V = V' ∧ ((r.toInt = 1 ∧ 0 ≤ k.toInt ∧ k.toInt < 8) ∨ (r.toInt = 0 ∧ ¬ (0 ≤ k.toInt ∧ k.toInt < 8))))) 0 0 := by
  refine hp_walk (R0 := RX13) (by decide) rfl ?_ (Nat.le_of_ble_eq_true rfl)
  intro p e s m below meth c ls hx hb hr hts hown hlocks hin hml hZ hl
  have hP : hq_I cs G V := hI
  have hl : lv_has ls 1 [(0, .int (k))] := hl
  have hb_k := hq_rng k
  have hL0 : (0 : Int64).toInt = 0 := by decide
  have hL1 : (1 : Int64).toInt = 1 := by decide
  have hL4 : (4 : Int64).toInt = 4 := by decide
  have hL5 : (5 : Int64).toInt = 5 := by decide
  have hL7 : (7 : Int64).toInt = 7 := by decide
  have hL9 : (9 : Int64).toInt = 9 := by decide
  have hL10 : (10 : Int64).toInt = 10 := by decide
  have hL19 : (19 : Int64).toInt = 19 := by decide
  have hL20 : (20 : Int64).toInt = 20 := by decide
  have hL29 : (29 : Int64).toInt = 29 := by decide
  have hL30 : (30 : Int64).toInt = 30 := by decide
  refine lv_iload_n hx hb dX13_isLearner_0 rfl (lv_at hl 0 rfl) ?_
  refine lv_i2l (v := (k).toInt64) hx hb dX13_isLearner_1 rfl ?_
  refine lv_topl (fun y1 ey2 => ?_)
  have b3 : (y1).toInt = (k).toInt := by rw [ey2]; exact hm_i2l _
  refine lv_lconst (v := 0) hx hb dX13_isLearner_2 (by decide) ?_
  refine lv_ldc2 (v := 7) hx hb hown (hts _ k64_X13_451) dX13_isLearner_3 ?_
  refine hp_calli (hp_runS (As := [.long (y1), .long (0), .long (7)]) (rest := []) hx hb hml hown hts (y_in l D cs B G V n hP (y1) (0) (7)    ) hZ cv_X13_301 rfl rfl ⟨Nat.le_of_ble_eq_true rfl, Nat.le_of_ble_eq_true rfl⟩ rfl hl.1 rfl (Nat.le_of_ble_eq_true rfl) dX13_isLearner_6 ⟨(Nat.le_of_ble_eq_true rfl), (Nat.le_of_ble_eq_true rfl)⟩) hZ (fun r7 V4 n5 _ _ hw6 hZ => ?_)
  obtain ⟨rfl, rfl, hp10⟩ := hw6
  have b11 := hq_rng r7
  exact hp_zret hx hb hr (hq_nzi (by omega) (by omega)) hlocks hZ ⟨rfl, rfl, (by omega)⟩ dX13_isLearner_9

set_option maxHeartbeats 4000000 in
set_option maxRecDepth 100000 in
theorem y_plOf (l : Launch) (D : va_G) (cs : Nat → ClassId) (B : Nat) (G : hq_G) (V : hp_V) (n : Nat) (hI : hq_I cs G V) (v : Int32) (te : Int32) (pe : Int32) : hp_M l yX13_placeOf cX13_placeOf 3 (some .int) ({ frames := 1, cells := 0, slots := 0, locals := 21 }) D cs B V n [.int (v), .int (te), .int (pe)] (hp_QI D cs B (fun r V' n' => n = n' ∧ V = V')) 0 0 := by
  refine hp_walk (R0 := RX13) (by decide) rfl ?_ (Nat.le_of_ble_eq_true rfl)
  intro p e s m below meth c ls hx hb hr hts hown hlocks hin hml hZ hl
  have hP : hq_I cs G V := hI
  have hl : lv_has ls 3 [(0, .int (v)), (1, .int (te)), (2, .int (pe))] := hl
  have hb_v := hq_rng v
  have hb_te := hq_rng te
  have hb_pe := hq_rng pe
  refine lv_bipush (v := 100) hx hb dX13_placeOf_0 (by decide) ?_
  refine lv_iload_n hx hb dX13_placeOf_2 rfl (lv_at hl 0 rfl) ?_
  refine lv_imul hx hb dX13_placeOf_3 ?_
  refine lv_topi (fun y1 ey2 => ?_)
  obtain ⟨k3, hk4, b5, b6⟩ := hq_mul (100) (v)
  rw [← ey2] at hk4 b5 b6
  have hk4 : (y1).toInt = (100 : Int) * (v).toInt + k3 * 4294967296 := hk4
  refine lv_bipush (v := 10) hx hb dX13_placeOf_4 (by decide) ?_
  refine lv_iload_n hx hb dX13_placeOf_6 rfl (lv_at hl 1 rfl) ?_
  refine lv_imul hx hb dX13_placeOf_7 ?_
  refine lv_topi (fun y7 ey8 => ?_)
  obtain ⟨k9, hk10, b11, b12⟩ := hq_mul (10) (te)
  rw [← ey8] at hk10 b11 b12
  have hk10 : (y7).toInt = (10 : Int) * (te).toInt + k9 * 4294967296 := hk10
  refine lv_iadd hx hb dX13_placeOf_8 ?_
  refine lv_topi (fun y13 ey14 => ?_)
  obtain ⟨k15, hk16, b17, b18⟩ := hq_add (y1) (y7)
  rw [← ey14] at hk16 b17 b18
  have hk16 : (y13).toInt = (y1).toInt + (y7).toInt + k15 * 4294967296 := hk16
  refine lv_iload_n hx hb dX13_placeOf_9 rfl (lv_at hl 2 rfl) ?_
  refine lv_iadd hx hb dX13_placeOf_10 ?_
  refine lv_topi (fun y19 ey20 => ?_)
  obtain ⟨k21, hk22, b23, b24⟩ := hq_add (y13) (pe)
  rw [← ey20] at hk22 b23 b24
  have hk22 : (y19).toInt = (y13).toInt + (pe).toInt + k21 * 4294967296 := hk22
  exact hp_iret hx hb hr hlocks hZ ⟨rfl, rfl⟩ dX13_placeOf_11

set_option maxHeartbeats 4000000 in
set_option maxRecDepth 100000 in
theorem y_isPl (l : Launch) (D : va_G) (cs : Nat → ClassId) (B : Nat) (G : hq_G) (V : hp_V) (n : Nat) (hI : hq_I cs G V) (q : Nat) (mo : Nat) (rh : hm_Rh) (m_tp : Int32) (m_sz : Int32) (m_fr : Int32) (m_bh : Int32) (m_hd : Int32) (m_ft : Int32) (m_fa : Int32) (m_le : Int32) (m_fo : Int32) (m_as : Int32) (m_fd : Int32) (m_bc : Int32) (m_bg : Int32) (m_bs : Int32) (m_be : Int32) (m_b0 : Int32) (m_b1 : Int32) (m_cm : Int32) (m_hc : Int32) (v : Int32) (te : Int32) (pe : Int32) (hc0 : V (mo) = some (.inr (13, hm_o q (m_tp) (m_sz) (m_fr) (m_bh) (m_hd) (m_ft) (m_fa) (m_le) (m_fo) (m_as) (m_fd) (m_bc) (m_bg) (m_bs) (m_be) (m_b0) (m_b1) (m_cm) (m_hc)))) (hp0 : hm_AR cs V q rh) (hR : hq_RT G q) (hmo : G mo = some (24, 0, 0, 0)) : hp_M l yX13_isPlace cX13_isPlace 4 (some .boolean) ({ frames := 3, cells := 0, slots := 0, locals := 67 }) D cs B V n [.ref (mo), .int (v), .int (te), .int (pe)] (hp_QI D cs B (fun r V' n' => n = n' ∧ V = V' ∧ ((r.toInt = 1 ∧ (0 ≤ v.toInt ∧ v.toInt < (rh 1 0).toInt ∧ 0 ≤ te.toInt ∧ te.toInt < 5 ∧ 0 ≤ pe.toInt ∧ pe.toInt < 6)) ∨ (r.toInt = 0 ∧ ¬ (0 ≤ v.toInt ∧ v.toInt < (rh 1 0).toInt ∧ 0 ≤ te.toInt ∧ te.toInt < 5 ∧ 0 ≤ pe.toInt ∧ pe.toInt < 6))))) 0 0 := by
  refine hp_walk (R0 := RX13) (by decide) rfl ?_ (Nat.le_of_ble_eq_true rfl)
  intro p e s m below meth c ls hx hb hr hts hown hlocks hin hml hZ hl
  have hP : hq_I cs G V := hI
  have hl : lv_has ls 4 [(0, .ref (mo)), (1, .int (v)), (2, .int (te)), (3, .int (pe))] := hl
  have hb_m_tp := hq_rng m_tp
  have hb_m_sz := hq_rng m_sz
  have hb_m_fr := hq_rng m_fr
  have hb_m_bh := hq_rng m_bh
  have hb_m_hd := hq_rng m_hd
  have hb_m_ft := hq_rng m_ft
  have hb_m_fa := hq_rng m_fa
  have hb_m_le := hq_rng m_le
  have hb_m_fo := hq_rng m_fo
  have hb_m_as := hq_rng m_as
  have hb_m_fd := hq_rng m_fd
  have hb_m_bc := hq_rng m_bc
  have hb_m_bg := hq_rng m_bg
  have hb_m_bs := hq_rng m_bs
  have hb_m_be := hq_rng m_be
  have hb_m_b0 := hq_rng m_b0
  have hb_m_b1 := hq_rng m_b1
  have hb_m_cm := hq_rng m_cm
  have hb_m_hc := hq_rng m_hc
  have hb_v := hq_rng v
  have hb_te := hq_rng te
  have hb_pe := hq_rng pe
  have hL0 : (0 : Int64).toInt = 0 := by decide
  have hL1 : (1 : Int64).toInt = 1 := by decide
  have hL4 : (4 : Int64).toInt = 4 := by decide
  have hL5 : (5 : Int64).toInt = 5 := by decide
  have hL7 : (7 : Int64).toInt = 7 := by decide
  have hL9 : (9 : Int64).toInt = 9 := by decide
  have hL10 : (10 : Int64).toInt = 10 := by decide
  have hL19 : (19 : Int64).toInt = 19 := by decide
  have hL20 : (20 : Int64).toInt = 20 := by decide
  have hL29 : (29 : Int64).toInt = 29 := by decide
  have hL30 : (30 : Int64).toInt = 30 := by decide
  refine lv_aload_n hx hb dX13_isPlace_0 rfl (lv_at hl 0 rfl) ?_
  refine lv_iload_n hx hb dX13_isPlace_1 rfl (lv_at hl 1 rfl) ?_
  refine hp_calli (hp_runV (As := [.int (v)]) (rest := []) hx hb hml hown hts (y_isVerb l D cs B G V n hP (q) (mo) (rh) (m_tp) (m_sz) (m_fr) (m_bh) (m_hd) (m_ft) (m_fa) (m_le) (m_fo) (m_as) (m_fd) (m_bc) (m_bg) (m_bs) (m_be) (m_b0) (m_b1) (m_cm) (m_hc) (v)  hc0 hp0 hR hmo) hZ hc0 cv_X13_317 rfl rfl ⟨Nat.le_of_ble_eq_true rfl, Nat.le_of_ble_eq_true rfl⟩ rfl hl.1 rfl (Nat.le_of_ble_eq_true rfl) dX13_isPlace_2 ⟨(Nat.le_of_ble_eq_true rfl), (Nat.le_of_ble_eq_true rfl)⟩) hZ (fun r4 V1 n2 _ _ hw3 hZ => ?_)
  obtain ⟨rfl, rfl, hp7⟩ := hw3
  have b8 := hq_rng r4
  refine lv_if_eq (tgt := 36) hx hb dX13_isPlace_5 (by decide) (fun c9 => ?_) (fun c9 => ?_)
  · have c9 : (r4).toInt = (0 : Int) := hq_eqi.mp c9
    refine lv_iconst (v := 0) hx hb dX13_isPlace_36 (by decide) ?_
    have hl10 : (0 : Int32).toInt = 0 := by decide
    exact hp_zret hx hb hr rfl hlocks hZ ⟨rfl, rfl, (by omega)⟩ dX13_isPlace_37
  · have c9 : ¬ (r4).toInt = (0 : Int) := fun h9 => c9 (hq_eqi.mpr h9)
    refine lv_iload_n hx hb dX13_isPlace_8 rfl (lv_at hl 2 rfl) ?_
    refine lv_i2l (v := (te).toInt64) hx hb dX13_isPlace_9 rfl ?_
    refine lv_topl (fun y11 ey12 => ?_)
    have b13 : (y11).toInt = (te).toInt := by rw [ey12]; exact hm_i2l _
    refine lv_lconst (v := 0) hx hb dX13_isPlace_10 (by decide) ?_
    refine lv_ldc2 (v := 4) hx hb hown (hts _ k64_X13_376) dX13_isPlace_11 ?_
    refine hp_calli (hp_runS (As := [.long (y11), .long (0), .long (4)]) (rest := []) hx hb hml hown hts (y_in l D cs B G V n hP (y11) (0) (4)    ) hZ cv_X13_301 rfl rfl ⟨Nat.le_of_ble_eq_true rfl, Nat.le_of_ble_eq_true rfl⟩ rfl hl.1 rfl (Nat.le_of_ble_eq_true rfl) dX13_isPlace_14 ⟨(Nat.le_of_ble_eq_true rfl), (Nat.le_of_ble_eq_true rfl)⟩) hZ (fun r17 V14 n15 _ _ hw16 hZ => ?_)
    obtain ⟨rfl, rfl, hp20⟩ := hw16
    have b21 := hq_rng r17
    refine lv_if_eq (tgt := 36) hx hb dX13_isPlace_17 (by decide) (fun c22 => ?_) (fun c22 => ?_)
    · have c22 : (r17).toInt = (0 : Int) := hq_eqi.mp c22
      refine lv_iconst (v := 0) hx hb dX13_isPlace_36 (by decide) ?_
      have hl23 : (0 : Int32).toInt = 0 := by decide
      exact hp_zret hx hb hr rfl hlocks hZ ⟨rfl, rfl, (by omega)⟩ dX13_isPlace_37
    · have c22 : ¬ (r17).toInt = (0 : Int) := fun h9 => c22 (hq_eqi.mpr h9)
      refine lv_iload_n hx hb dX13_isPlace_20 rfl (lv_at hl 3 rfl) ?_
      refine lv_i2l (v := (pe).toInt64) hx hb dX13_isPlace_21 rfl ?_
      refine lv_topl (fun y24 ey25 => ?_)
      have b26 : (y24).toInt = (pe).toInt := by rw [ey25]; exact hm_i2l _
      refine lv_lconst (v := 0) hx hb dX13_isPlace_22 (by decide) ?_
      refine lv_ldc2 (v := 5) hx hb hown (hts _ k64_X13_378) dX13_isPlace_23 ?_
      refine hp_calli (hp_runS (As := [.long (y24), .long (0), .long (5)]) (rest := []) hx hb hml hown hts (y_in l D cs B G V n hP (y24) (0) (5)    ) hZ cv_X13_301 rfl rfl ⟨Nat.le_of_ble_eq_true rfl, Nat.le_of_ble_eq_true rfl⟩ rfl hl.1 rfl (Nat.le_of_ble_eq_true rfl) dX13_isPlace_26 ⟨(Nat.le_of_ble_eq_true rfl), (Nat.le_of_ble_eq_true rfl)⟩) hZ (fun r30 V27 n28 _ _ hw29 hZ => ?_)
      obtain ⟨rfl, rfl, hp33⟩ := hw29
      have b34 := hq_rng r30
      refine lv_if_eq (tgt := 36) hx hb dX13_isPlace_29 (by decide) (fun c35 => ?_) (fun c35 => ?_)
      · have c35 : (r30).toInt = (0 : Int) := hq_eqi.mp c35
        refine lv_iconst (v := 0) hx hb dX13_isPlace_36 (by decide) ?_
        have hl36 : (0 : Int32).toInt = 0 := by decide
        exact hp_zret hx hb hr rfl hlocks hZ ⟨rfl, rfl, (by omega)⟩ dX13_isPlace_37
      · have c35 : ¬ (r30).toInt = (0 : Int) := fun h9 => c35 (hq_eqi.mpr h9)
        refine lv_iconst (v := 1) hx hb dX13_isPlace_32 (by decide) ?_
        refine lv_goto (tgt := 37) hx hb dX13_isPlace_33 (by decide) ?_
        have hl37 : (1 : Int32).toInt = 1 := by decide
        exact hp_zret hx hb hr rfl hlocks hZ ⟨rfl, rfl, (by omega)⟩ dX13_isPlace_37

set_option maxHeartbeats 4000000 in
set_option maxRecDepth 100000 in
theorem y_compN (l : Launch) (D : va_G) (cs : Nat → ClassId) (B : Nat) (G : hq_G) (V : hp_V) (n : Nat) (hI : hq_I cs G V) (q : Nat) (mo : Nat) (w : sp_W) (bk : sp_B) (c9 : Int) (rh : hm_Rh) (m_tp : Int32) (m_sz : Int32) (m_fr : Int32) (m_bh : Int32) (m_hd : Int32) (m_ft : Int32) (m_fa : Int32) (m_le : Int32) (m_fo : Int32) (m_as : Int32) (m_fd : Int32) (m_bc : Int32) (m_bg : Int32) (m_bs : Int32) (m_be : Int32) (m_b0 : Int32) (m_b1 : Int32) (m_cm : Int32) (m_hc : Int32) (v : Int32) (te : Int32) (pe : Int32) (hc0 : V (mo) = some (.inr (13, hm_o q (m_tp) (m_sz) (m_fr) (m_bh) (m_hd) (m_ft) (m_fa) (m_le) (m_fo) (m_as) (m_fd) (m_bc) (m_bg) (m_bs) (m_be) (m_b0) (m_b1) (m_cm) (m_hc)))) (hp0 : hm_AR cs V q rh) (hR : hq_RT G q) (hmo : G mo = some (24, 0, 0, 0)) (hBm : hm_BK rh 0 w bk) (hgd2 : sp_good2 bk) (hv : 0 ≤ v.toInt ∧ v.toInt < 30) (hc9 : (rh 9 (v).toNatClampNeg).toInt = c9) (hn3 : (sp_nf 3 v.toInt c9 te.toInt pe.toInt bk.2.2.2 0) = -1) : hp_M l yX13_compoundOf cX13_compoundOf 4 (some .int) ({ frames := 3, cells := 0, slots := 0, locals := 70 }) D cs B V n [.ref (mo), .int (v), .int (te), .int (pe)] (hp_QI D cs B (fun r V' n' => n = n' ∧ V = V' ∧ (r.toInt = -1))) 0 0 := by
  refine hp_walk (R0 := RX13) (by decide) rfl ?_ (Nat.le_of_ble_eq_true rfl)
  intro p e s m below meth c ls hx hb hr hts hown hlocks hin hml hZ hl
  have hP : hq_I cs G V := hI
  have hl : lv_has ls 4 [(0, .ref (mo)), (1, .int (v)), (2, .int (te)), (3, .int (pe))] := hl
  have hb_m_tp := hq_rng m_tp
  have hb_m_sz := hq_rng m_sz
  have hb_m_fr := hq_rng m_fr
  have hb_m_bh := hq_rng m_bh
  have hb_m_hd := hq_rng m_hd
  have hb_m_ft := hq_rng m_ft
  have hb_m_fa := hq_rng m_fa
  have hb_m_le := hq_rng m_le
  have hb_m_fo := hq_rng m_fo
  have hb_m_as := hq_rng m_as
  have hb_m_fd := hq_rng m_fd
  have hb_m_bc := hq_rng m_bc
  have hb_m_bg := hq_rng m_bg
  have hb_m_bs := hq_rng m_bs
  have hb_m_be := hq_rng m_be
  have hb_m_b0 := hq_rng m_b0
  have hb_m_b1 := hq_rng m_b1
  have hb_m_cm := hq_rng m_cm
  have hb_m_hc := hq_rng m_hc
  have hb_v := hq_rng v
  have hb_te := hq_rng te
  have hb_pe := hq_rng pe
  refine lv_aload_n hx hb dX13_compoundOf_0 rfl (lv_at hl 0 rfl) ?_
  refine lv_iconst (v := 5) hx hb dX13_compoundOf_1 (by decide) ?_
  refine lv_iload_n hx hb dX13_compoundOf_2 rfl (lv_at hl 1 rfl) ?_
  refine lv_iload_n hx hb dX13_compoundOf_3 rfl (lv_at hl 2 rfl) ?_
  refine lv_iload_n hx hb dX13_compoundOf_4 rfl (lv_at hl 3 rfl) ?_
  have hl1 : (5 : Int32).toInt = 5 := by decide
  refine hp_calli (hp_runV (As := [.int (5), .int (v), .int (te), .int (pe)]) (rest := []) hx hb hml hown hts (y_fo l D cs B G V n hP (q) (mo) (w) (bk) (c9) (rh) (m_tp) (m_sz) (m_fr) (m_bh) (m_hd) (m_ft) (m_fa) (m_le) (m_fo) (m_as) (m_fd) (m_bc) (m_bg) (m_bs) (m_be) (m_b0) (m_b1) (m_cm) (m_hc) (5) (v) (te) (pe)  hc0 hp0 hR hmo hBm hgd2 (by decide) (by omega) hc9) hZ hc0 cv_X13_347 rfl rfl ⟨Nat.le_of_ble_eq_true rfl, Nat.le_of_ble_eq_true rfl⟩ rfl hl.1 rfl (Nat.le_of_ble_eq_true rfl) dX13_compoundOf_5 ⟨(Nat.le_of_ble_eq_true rfl), (Nat.le_of_ble_eq_true rfl)⟩) hZ (fun r5 V2 n3 _ _ hw4 hZ => ?_)
  obtain ⟨rfl, rfl, hp8⟩ := hw4
  have b9 := hq_rng r5
  have hf5 := hp8
  rw [show (5 : Int32).toInt = 5 by decide] at hf5
  refine lv_iconst (v := -1) hx hb dX13_compoundOf_8 (by decide) ?_
  refine lv_icmp_ne (tgt := 24) hx hb dX13_compoundOf_9 (by decide) (fun c10 => ?_) (fun c10 => ?_)
  · have c10 : ¬ (r5).toInt = (-1 : Int) := fun h9 => c10 (hq_eqi.mpr h9)
    refine lv_iconst (v := -1) hx hb dX13_compoundOf_24 (by decide) ?_
    refine lv_goto (tgt := 36) hx hb dX13_compoundOf_25 (by decide) ?_
    have hl11 : (-1 : Int32).toInt = -1 := by decide
    exact hp_iret hx hb hr hlocks hZ ⟨rfl, rfl, (by omega)⟩ dX13_compoundOf_36
  · have c10 : (r5).toInt = (-1 : Int) := hq_eqi.mp c10
    refine lv_aload_n hx hb dX13_compoundOf_12 rfl (lv_at hl 0 rfl) ?_
    refine lv_iconst (v := 4) hx hb dX13_compoundOf_13 (by decide) ?_
    refine lv_iload_n hx hb dX13_compoundOf_14 rfl (lv_at hl 1 rfl) ?_
    refine lv_iload_n hx hb dX13_compoundOf_15 rfl (lv_at hl 2 rfl) ?_
    refine lv_iload_n hx hb dX13_compoundOf_16 rfl (lv_at hl 3 rfl) ?_
    have hl12 : (4 : Int32).toInt = 4 := by decide
    refine hp_calli (hp_runV (As := [.int (4), .int (v), .int (te), .int (pe)]) (rest := []) hx hb hml hown hts (y_fo l D cs B G V n hP (q) (mo) (w) (bk) (c9) (rh) (m_tp) (m_sz) (m_fr) (m_bh) (m_hd) (m_ft) (m_fa) (m_le) (m_fo) (m_as) (m_fd) (m_bc) (m_bg) (m_bs) (m_be) (m_b0) (m_b1) (m_cm) (m_hc) (4) (v) (te) (pe)  hc0 hp0 hR hmo hBm hgd2 (by decide) (by omega) hc9) hZ hc0 cv_X13_347 rfl rfl ⟨Nat.le_of_ble_eq_true rfl, Nat.le_of_ble_eq_true rfl⟩ rfl hl.1 rfl (Nat.le_of_ble_eq_true rfl) dX13_compoundOf_17 ⟨(Nat.le_of_ble_eq_true rfl), (Nat.le_of_ble_eq_true rfl)⟩) hZ (fun r16 V13 n14 _ _ hw15 hZ => ?_)
    obtain ⟨rfl, rfl, hp19⟩ := hw15
    have b20 := hq_rng r16
    have hf4 := hp19
    rw [show (4 : Int32).toInt = 4 by decide] at hf4
    refine lv_iconst (v := -1) hx hb dX13_compoundOf_20 (by decide) ?_
    refine lv_icmp_eq (tgt := 28) hx hb dX13_compoundOf_21 (by decide) (fun c21 => ?_) (fun c21 => ?_)
    · have c21 : (r16).toInt = (-1 : Int) := hq_eqi.mp c21
      refine lv_aload_n hx hb dX13_compoundOf_28 rfl (lv_at hl 0 rfl) ?_
      refine lv_iconst (v := 3) hx hb dX13_compoundOf_29 (by decide) ?_
      refine lv_iload_n hx hb dX13_compoundOf_30 rfl (lv_at hl 1 rfl) ?_
      refine lv_iload_n hx hb dX13_compoundOf_31 rfl (lv_at hl 2 rfl) ?_
      refine lv_iload_n hx hb dX13_compoundOf_32 rfl (lv_at hl 3 rfl) ?_
      have hl22 : (3 : Int32).toInt = 3 := by decide
      refine hp_calli (hp_runV (As := [.int (3), .int (v), .int (te), .int (pe)]) (rest := []) hx hb hml hown hts (y_fo l D cs B G V n hP (q) (mo) (w) (bk) (c9) (rh) (m_tp) (m_sz) (m_fr) (m_bh) (m_hd) (m_ft) (m_fa) (m_le) (m_fo) (m_as) (m_fd) (m_bc) (m_bg) (m_bs) (m_be) (m_b0) (m_b1) (m_cm) (m_hc) (3) (v) (te) (pe)  hc0 hp0 hR hmo hBm hgd2 (by decide) (by omega) hc9) hZ hc0 cv_X13_347 rfl rfl ⟨Nat.le_of_ble_eq_true rfl, Nat.le_of_ble_eq_true rfl⟩ rfl hl.1 rfl (Nat.le_of_ble_eq_true rfl) dX13_compoundOf_33 ⟨(Nat.le_of_ble_eq_true rfl), (Nat.le_of_ble_eq_true rfl)⟩) hZ (fun r26 V23 n24 _ _ hw25 hZ => ?_)
      obtain ⟨rfl, rfl, hp29⟩ := hw25
      have b30 := hq_rng r26
      have hf3 := hp29
      rw [show (3 : Int32).toInt = 3 by decide] at hf3
      exact hp_iret hx hb hr hlocks hZ ⟨rfl, rfl, (by omega)⟩ dX13_compoundOf_36
    · have c21 : ¬ (r16).toInt = (-1 : Int) := fun h9 => c21 (hq_eqi.mpr h9)
      refine lv_iconst (v := -1) hx hb dX13_compoundOf_24 (by decide) ?_
      refine lv_goto (tgt := 36) hx hb dX13_compoundOf_25 (by decide) ?_
      have hl31 : (-1 : Int32).toInt = -1 := by decide
      exact hp_iret hx hb hr hlocks hZ ⟨rfl, rfl, (by omega)⟩ dX13_compoundOf_36

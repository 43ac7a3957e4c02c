set_option maxHeartbeats 4000000 in
set_option maxRecDepth 100000 in
theorem y_isLine (l : Launch) (D : va_G) (cs : Nat → ClassId) (B : Nat) (G : hq_G) (V : hp_V) (n : Nat) (hI : hq_I cs G V) (q : Nat) (mo : Nat) (rh : hm_Rh) (m_tp : Int32) (m_sz : Int32) (m_fr : Int32) (m_bh : Int32) (m_hd : Int32) (m_ft : Int32) (m_fa : Int32) (m_le : Int32) (m_fo : Int32) (m_as : Int32) (m_fd : Int32) (m_bc : Int32) (m_bg : Int32) (m_bs : Int32) (m_be : Int32) (m_b0 : Int32) (m_b1 : Int32) (m_cm : Int32) (m_hc : Int32) (v : Int32) (hc0 : V (mo) = some (.inr (13, hm_o q (m_tp) (m_sz) (m_fr) (m_bh) (m_hd) (m_ft) (m_fa) (m_le) (m_fo) (m_as) (m_fd) (m_bc) (m_bg) (m_bs) (m_be) (m_b0) (m_b1) (m_cm) (m_hc)))) (hp0 : hm_AR cs V q rh) (hR : hq_RT G q) (hmo : G mo = some (24, 0, 0, 0)) : hp_M l yX13_isLine cX13_isLine 2 (some .boolean) ({ frames := 2, cells := 0, slots := 0, locals := 46 }) D cs B V n [.ref (mo), .int (v)] (hp_QI D cs B (fun r V' n' => n = n' ∧ V = V' ∧ ((r.toInt = 1 ∧ 0 ≤ v.toInt ∧ v.toInt < (rh 2 0).toInt) ∨ (r.toInt = 0 ∧ ¬ (0 ≤ v.toInt ∧ v.toInt < (rh 2 0).toInt))))) 0 0 := by
  refine hp_walk (R0 := RX13) (by decide) rfl ?_ (Nat.le_of_ble_eq_true rfl)
  intro p e s m below meth c ls hx hb hr hts hown hlocks hin hml hZ hl
  have hP : hq_I cs G V := hI
  have hl : lv_has ls 2 [(0, .ref (mo)), (1, .int (v))] := hl
  have hb_m_tp := hq_rng m_tp
  have hb_m_sz := hq_rng m_sz
  have hb_m_fr := hq_rng m_fr
  have hb_m_bh := hq_rng m_bh
  have hb_m_hd := hq_rng m_hd
  have hb_m_ft := hq_rng m_ft
  have hb_m_fa := hq_rng m_fa
  have hb_m_le := hq_rng m_le
  have hb_m_fo := hq_rng m_fo
  have hb_m_as := hq_rng m_as
  have hb_m_fd := hq_rng m_fd
  have hb_m_bc := hq_rng m_bc
  have hb_m_bg := hq_rng m_bg
  have hb_m_bs := hq_rng m_bs
  have hb_m_be := hq_rng m_be
  have hb_m_b0 := hq_rng m_b0
  have hb_m_b1 := hq_rng m_b1
  have hb_m_cm := hq_rng m_cm
  have hb_m_hc := hq_rng m_hc
  have hb_v := hq_rng v
  have hL0 : (0 : Int64).toInt = 0 := by decide
  have hL1 : (1 : Int64).toInt = 1 := by decide
  have hL4 : (4 : Int64).toInt = 4 := by decide
  have hL5 : (5 : Int64).toInt = 5 := by decide
  have hL9 : (9 : Int64).toInt = 9 := by decide
  have hL10 : (10 : Int64).toInt = 10 := by decide
  refine lv_iload_n hx hb dX13_isLine_0 rfl (lv_at hl 1 rfl) ?_
  refine lv_i2l (v := (v).toInt64) hx hb dX13_isLine_1 rfl ?_
  refine lv_topl (fun y1 ey2 => ?_)
  have b3 : (y1).toInt = (v).toInt := by rw [ey2]; exact hm_i2l _
  refine lv_lconst (v := 0) hx hb dX13_isLine_2 (by decide) ?_
  refine lv_aload_n hx hb dX13_isLine_3 rfl (lv_at hl 0 rfl) ?_
  refine hp_get (v := .ref (q + 2)) hx hb hts hown hZ hc0 fl_X13_10 rfl dX13_isLine_4 ?_
  refine lv_iconst (v := 0) hx hb dX13_isLine_7 (by decide) ?_
  obtain ⟨rf4, hrf5⟩ : ∃ f : Nat → Int32, f = rh 2 := ⟨_, rfl⟩
  have ea6 : V (q + 2) = some (.inl (cs 1, 2, .inl (rf4))) := by rw [hrf5]; exact hp0 2 (by decide)
  have hra7 := hq_rg hP (hr_2 hR) ea6
  refine hp_iald hx hb hZ ea6 (by unfold vp_in; decide) dX13_isLine_8 ?_
  refine lv_topi (fun y8 ey9 => ?_)
  have b10 : hq_ir (hq_lo 8) (hq_hi 8) y8 := by rw [ey9]; exact hra7 _ (by decide)
  have b10 : 0 ≤ (y8).toInt ∧ (y8).toInt ≤ 60 := b10
  have b11 : (y8).toInt = (rh 2 0).toInt := by rw [ey9, hrf5]; rfl
  refine lv_i2l (v := (y8).toInt64) hx hb dX13_isLine_9 rfl ?_
  refine lv_topl (fun y12 ey13 => ?_)
  have b14 : (y12).toInt = (y8).toInt := by rw [ey13]; exact hm_i2l _
  refine lv_lconst (v := 1) hx hb dX13_isLine_10 (by decide) ?_
  refine lv_lsub hx hb dX13_isLine_11 ?_
  refine lv_topl (fun y15 ey16 => ?_)
  have b18 : (1 : Int64).toInt = 1 := by decide
  have b17 : (y15).toInt = (y12).toInt - (1 : Int) := by rw [ey16]; exact hm_lsub _ _ (by omega) (by omega)
  refine hp_calli (hp_runS (As := [.long (y1), .long (0), .long (y15)]) (rest := []) hx hb hml hown hts (y_in l D cs B G V n hP (y1) (0) (y15)    ) hZ cv_X13_301 rfl rfl ⟨Nat.le_of_ble_eq_true rfl, Nat.le_of_ble_eq_true rfl⟩ rfl hl.1 rfl (Nat.le_of_ble_eq_true rfl) dX13_isLine_12 ⟨(Nat.le_of_ble_eq_true rfl), (Nat.le_of_ble_eq_true rfl)⟩) hZ (fun r22 V19 n20 _ _ hw21 hZ => ?_)
  obtain ⟨rfl, rfl, hp25⟩ := hw21
  have b26 := hq_rng r22
  exact hp_zret hx hb hr (hq_nzi (by omega) (by omega)) hlocks hZ ⟨rfl, rfl, (by omega)⟩ dX13_isLine_15

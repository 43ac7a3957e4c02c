set_option maxHeartbeats 4000000 in
set_option maxRecDepth 100000 in
theorem y_compN (l : Launch) (D : va_G) (cs : Nat → ClassId) (B : Nat) (G : hq_G) (V : hp_V) (n : Nat) (hI : hq_I cs G V) (q : Nat) (mo : Nat) (w : sp_W) (bk : sp_B) (c9 : Int) (rh : hm_Rh) (m_tp : Int32) (m_sz : Int32) (m_fr : Int32) (m_bh : Int32) (m_hd : Int32) (m_ft : Int32) (m_fa : Int32) (m_le : Int32) (m_fo : Int32) (m_as : Int32) (m_fd : Int32) (m_bc : Int32) (m_bg : Int32) (m_bs : Int32) (m_be : Int32) (m_b0 : Int32) (m_b1 : Int32) (m_cm : Int32) (m_hc : Int32) (v : Int32) (te : Int32) (pe : Int32) (hc0 : V (mo) = some (.inr (13, hm_o q (m_tp) (m_sz) (m_fr) (m_bh) (m_hd) (m_ft) (m_fa) (m_le) (m_fo) (m_as) (m_fd) (m_bc) (m_bg) (m_bs) (m_be) (m_b0) (m_b1) (m_cm) (m_hc)))) (hp0 : hm_AR cs V q rh) (hR : hq_RT G q) (hmo : G mo = some (24, 0, 0, 0)) (hBm : hm_BK rh 0 w bk) (hgd2 : sp_good2 bk) (hv : 0 ≤ v.toInt ∧ v.toInt < 30) (hc9 : (rh 9 (v).toNatClampNeg).toInt = c9) (hn3 : (sp_nf 3 v.toInt c9 te.toInt pe.toInt bk.2.2.2 0) = -1) : hp_M l yX13_compoundOf cX13_compoundOf 4 (some .int) ({ frames := 3, cells := 0, slots := 0, locals := 70 }) D cs B V n [.ref (mo), .int (v), .int (te), .int (pe)] (hp_QI D cs B (fun r V' n' => n = n' ∧ V = V' ∧ (r.toInt = -1))) 0 0 := by
  refine hp_walk (R0 := RX13) (by decide) rfl ?_ (Nat.le_of_ble_eq_true rfl)
  intro p e s m below meth c ls hx hb hr hts hown hlocks hin hml hZ hl
  have hP : hq_I cs G V := hI
  have hl : lv_has ls 4 [(0, .ref (mo)), (1, .int (v)), (2, .int (te)), (3, .int (pe))] := hl
  have hb_m_tp := hq_rng m_tp
  have hb_m_sz := hq_rng m_sz
  have hb_m_fr := hq_rng m_fr
  have hb_m_bh := hq_rng m_bh
  have hb_m_hd := hq_rng m_hd
  have hb_m_ft := hq_rng m_ft
  have hb_m_fa := hq_rng m_fa
  have hb_m_le := hq_rng m_le
  have hb_m_fo := hq_rng m_fo
  have hb_m_as := hq_rng m_as
  have hb_m_fd := hq_rng m_fd
  have hb_m_bc := hq_rng m_bc
  have hb_m_bg := hq_rng m_bg
  have hb_m_bs := hq_rng m_bs
  have hb_m_be := hq_rng m_be
  have hb_m_b0 := hq_rng m_b0
  have hb_m_b1 := hq_rng m_b1
  have hb_m_cm := hq_rng m_cm
  have hb_m_hc := hq_rng m_hc
  have hb_v := hq_rng v
  have hb_te := hq_rng te
  have hb_pe := hq_rng pe
  refine lv_aload_n hx hb dX13_compoundOf_0 rfl (lv_at hl 0 rfl) ?_
  refine lv_iconst (v := 5) hx hb dX13_compoundOf_1 (by decide) ?_
  refine lv_iload_n hx hb dX13_compoundOf_2 rfl (lv_at hl 1 rfl) ?_
  refine lv_iload_n hx hb dX13_compoundOf_3 rfl (lv_at hl 2 rfl) ?_
  refine lv_iload_n hx hb dX13_compoundOf_4 rfl (lv_at hl 3 rfl) ?_
  have hl1 : (5 : Int32).toInt = 5 := by decide
  refine hp_calli (hp_runV (As := [.int (5), .int (v), .int (te), .int (pe)]) (rest := []) hx hb hml hown hts (y_fo l D cs B G V n hP (q) (mo) (w) (bk) (c9) (rh) (m_tp) (m_sz) (m_fr) (m_bh) (m_hd) (m_ft) (m_fa) (m_le) (m_fo) (m_as) (m_fd) (m_bc) (m_bg) (m_bs) (m_be) (m_b0) (m_b1) (m_cm) (m_hc) (5) (v) (te) (pe)  hc0 hp0 hR hmo hBm hgd2 (by decide) (by omega) hc9) hZ hc0 cv_X13_347 rfl rfl ⟨Nat.le_of_ble_eq_true rfl, Nat.le_of_ble_eq_true rfl⟩ rfl hl.1 rfl (Nat.le_of_ble_eq_true rfl) dX13_compoundOf_5 ⟨(Nat.le_of_ble_eq_true rfl), (Nat.le_of_ble_eq_true rfl)⟩) hZ (fun r5 V2 n3 _ _ hw4 hZ => ?_)
  obtain ⟨rfl, rfl, hp8⟩ := hw4
  have b9 := hq_rng r5
  have hf5 := hp8
  rw [show (5 : Int32).toInt = 5 by decide] at hf5
  refine lv_iconst (v := -1) hx hb dX13_compoundOf_8 (by decide) ?_
  refine lv_icmp_ne (tgt := 24) hx hb dX13_compoundOf_9 (by decide) (fun c10 => ?_) (fun c10 => ?_)
  · have c10 : ¬ (r5).toInt = (-1 : Int) := fun h9 => c10 (hq_eqi.mpr h9)
    refine lv_iconst (v := -1) hx hb dX13_compoundOf_24 (by decide) ?_
    refine lv_goto (tgt := 36) hx hb dX13_compoundOf_25 (by decide) ?_
    have hl11 : (-1 : Int32).toInt = -1 := by decide
    exact hp_iret hx hb hr hlocks hZ ⟨rfl, rfl, (by omega)⟩ dX13_compoundOf_36
  · have c10 : (r5).toInt = (-1 : Int) := hq_eqi.mp c10
    refine lv_aload_n hx hb dX13_compoundOf_12 rfl (lv_at hl 0 rfl) ?_
    refine lv_iconst (v := 4) hx hb dX13_compoundOf_13 (by decide) ?_
    refine lv_iload_n hx hb dX13_compoundOf_14 rfl (lv_at hl 1 rfl) ?_
    refine lv_iload_n hx hb dX13_compoundOf_15 rfl (lv_at hl 2 rfl) ?_
    refine lv_iload_n hx hb dX13_compoundOf_16 rfl (lv_at hl 3 rfl) ?_
    have hl12 : (4 : Int32).toInt = 4 := by decide
    refine hp_calli (hp_runV (As := [.int (4), .int (v), .int (te), .int (pe)]) (rest := []) hx hb hml hown hts (y_fo l D cs B G V n hP (q) (mo) (w) (bk) (c9) (rh) (m_tp) (m_sz) (m_fr) (m_bh) (m_hd) (m_ft) (m_fa) (m_le) (m_fo) (m_as) (m_fd) (m_bc) (m_bg) (m_bs) (m_be) (m_b0) (m_b1) (m_cm) (m_hc) (4) (v) (te) (pe)  hc0 hp0 hR hmo hBm hgd2 (by decide) (by omega) hc9) hZ hc0 cv_X13_347 rfl rfl ⟨Nat.le_of_ble_eq_true rfl, Nat.le_of_ble_eq_true rfl⟩ rfl hl.1 rfl (Nat.le_of_ble_eq_true rfl) dX13_compoundOf_17 ⟨(Nat.le_of_ble_eq_true rfl), (Nat.le_of_ble_eq_true rfl)⟩) hZ (fun r16 V13 n14 _ _ hw15 hZ => ?_)
    obtain ⟨rfl, rfl, hp19⟩ := hw15
    have b20 := hq_rng r16
    have hf4 := hp19
    rw [show (4 : Int32).toInt = 4 by decide] at hf4
    refine lv_iconst (v := -1) hx hb dX13_compoundOf_20 (by decide) ?_
    refine lv_icmp_eq (tgt := 28) hx hb dX13_compoundOf_21 (by decide) (fun c21 => ?_) (fun c21 => ?_)
    · have c21 : (r16).toInt = (-1 : Int) := hq_eqi.mp c21
      refine lv_aload_n hx hb dX13_compoundOf_28 rfl (lv_at hl 0 rfl) ?_
      refine lv_iconst (v := 3) hx hb dX13_compoundOf_29 (by decide) ?_
      refine lv_iload_n hx hb dX13_compoundOf_30 rfl (lv_at hl 1 rfl) ?_
      refine lv_iload_n hx hb dX13_compoundOf_31 rfl (lv_at hl 2 rfl) ?_
      refine lv_iload_n hx hb dX13_compoundOf_32 rfl (lv_at hl 3 rfl) ?_
      have hl22 : (3 : Int32).toInt = 3 := by decide
      refine hp_calli (hp_runV (As := [.int (3), .int (v), .int (te), .int (pe)]) (rest := []) hx hb hml hown hts (y_fo l D cs B G V n hP (q) (mo) (w) (bk) (c9) (rh) (m_tp) (m_sz) (m_fr) (m_bh) (m_hd) (m_ft) (m_fa) (m_le) (m_fo) (m_as) (m_fd) (m_bc) (m_bg) (m_bs) (m_be) (m_b0) (m_b1) (m_cm) (m_hc) (3) (v) (te) (pe)  hc0 hp0 hR hmo hBm hgd2 (by decide) (by omega) hc9) hZ hc0 cv_X13_347 rfl rfl ⟨Nat.le_of_ble_eq_true rfl, Nat.le_of_ble_eq_true rfl⟩ rfl hl.1 rfl (Nat.le_of_ble_eq_true rfl) dX13_compoundOf_33 ⟨(Nat.le_of_ble_eq_true rfl), (Nat.le_of_ble_eq_true rfl)⟩) hZ (fun r26 V23 n24 _ _ hw25 hZ => ?_)
      obtain ⟨rfl, rfl, hp29⟩ := hw25
      have b30 := hq_rng r26
      have hf3 := hp29
      rw [show (3 : Int32).toInt = 3 by decide] at hf3
      exact hp_iret hx hb hr hlocks hZ ⟨rfl, rfl, (by omega)⟩ dX13_compoundOf_36
    · have c21 : ¬ (r16).toInt = (-1 : Int) := fun h9 => c21 (hq_eqi.mpr h9)
      refine lv_iconst (v := -1) hx hb dX13_compoundOf_24 (by decide) ?_
      refine lv_goto (tgt := 36) hx hb dX13_compoundOf_25 (by decide) ?_
      have hl31 : (-1 : Int32).toInt = -1 := by decide
      exact hp_iret hx hb hr hlocks hZ ⟨rfl, rfl, (by omega)⟩ dX13_compoundOf_36

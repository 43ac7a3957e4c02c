set_option maxHeartbeats 4000000 in
set_option maxRecDepth 100000 in
theorem y_allN (l : Launch) (D : va_G) (cs : Nat → ClassId) (B : Nat) (G : hq_G) (V : hp_V) (n : Nat) (hI : hq_I cs G V) (q : Nat) (mo : Nat) (w : sp_W) (bk : sp_B) (t9 : Nat) (rh : hm_Rh) (m_tp : Int32) (m_sz : Int32) (m_fr : Int32) (m_bh : Int32) (m_hd : Int32) (m_ft : Int32) (m_fa : Int32) (m_le : Int32) (m_fo : Int32) (m_as : Int32) (m_fd : Int32) (m_bc : Int32) (m_bg : Int32) (m_bs : Int32) (m_be : Int32) (m_b0 : Int32) (m_b1 : Int32) (m_cm : Int32) (m_hc : Int32) (c9 : Int) (v : Int32) (te : Int32) (pe : Int32) (wf : Nat → Int32) (sf : Nat → Int32) (bf : Nat → Int32) (df : Nat → Int32) (ft : Nat → Int32) (fs : Nat → Int32) (rwf : Nat → Int32) (rs : Nat → Int32) (hc0 : V (mo) = some (.inr (13, hm_o q (m_tp) (m_sz) (m_fr) (m_bh) (m_hd) (m_ft) (m_fa) (m_le) (m_fo) (m_as) (m_fd) (m_bc) (m_bg) (m_bs) (m_be) (m_b0) (m_b1) (m_cm) (m_hc)))) (hc1 : V (q + 21) = some (.inl (cs 0, 276, .inl (wf)))) (hc2 : V (q + 22) = some (.inl (cs 0, 276, .inl (sf)))) (hc3 : V (q + 24) = some (.inl (cs 0, 30, .inl (bf)))) (hc4 : V (q + 23) = some (.inl (cs 3, 60, .inl (df)))) (hc5 : V (q + 25) = some (.inl (cs 0, 244, .inl (ft)))) (hc6 : V (q + 28) = some (.inl (cs 1, 4, .inl (fs)))) (hc7 : V (q + 29) = some (.inl (cs 1, 560, .inl (rwf)))) (hc8 : V (q + 30) = some (.inl (cs 1, 4, .inl (rs)))) (hp0 : hm_AR cs V q rh) (hR : hq_RT G q) (hmo : G mo = some (24, 0, 0, 0)) (hmq : mo < q) (hBm : hm_BK rh 0 w bk) (hgd : sp_good w bk) (hgd2 : sp_good2 bk) (hoc : sp_okc w) (ht9 : bk.2.1[v.toNatClampNeg]? = some t9) (hv : 0 ≤ v.toInt) (hc9 : (rh 9 (v).toNatClampNeg).toInt = c9) (hlem : 0 ≤ m_le.toInt ∧ m_le.toInt ≤ 276) (hn3 : (sp_nf 3 v.toInt c9 te.toInt pe.toInt bk.2.2.2 0) = -1) : hp_M l yX13_all cX13_all 10 none ({ frames := 5, cells := 0, slots := 0, locals := 121 }) D cs B V n [.ref (mo), .int (v), .int (te), .int (pe)] (hp_QV D cs B (fun V' n' => n = n' ∧ hq_P cs G (fun _ => true) V V' ∧ (∀ x, x ≠ mo → x ≠ q + 21 → x ≠ q + 22 → x ≠ q + 24 → x ≠ q + 23 → x ≠ q + 25 → x ≠ q + 28 → x ≠ q + 29 → x ≠ q + 30 → V' x = V x) ∧ (∃ m_le1 : Int32, ∃ m_fo1 : Int32, ∃ wf1 : Nat → Int32, ∃ sf1 : Nat → Int32, ∃ bf1 : Nat → Int32, ∃ df1 : Nat → Int32, ∃ ft1 : Nat → Int32, ∃ fs1 : Nat → Int32, ∃ rw1 : Nat → Int32, ∃ rs1 : Nat → Int32, ∃ L : List (List Int), V' (mo) = some (.inr (13, hm_o q (m_tp) (m_sz) (m_fr) (m_bh) (m_hd) (m_ft) (m_fa) (m_le1) (m_fo1) (m_as) (m_fd) (m_bc) (m_bg) (m_bs) (m_be) (m_b0) (m_b1) (m_cm) (m_hc))) ∧ V' (q + 21) = some (.inl (cs 0, 276, .inl (wf1))) ∧ V' (q + 22) = some (.inl (cs 0, 276, .inl (sf1))) ∧ V' (q + 24) = some (.inl (cs 0, 30, .inl (bf1))) ∧ V' (q + 23) = some (.inl (cs 3, 60, .inl (df1))) ∧ V' (q + 25) = some (.inl (cs 0, 244, .inl (ft1))) ∧ V' (q + 28) = some (.inl (cs 1, 4, .inl (fs1))) ∧ V' (q + 29) = some (.inl (cs 1, 560, .inl (rw1))) ∧ V' (q + 30) = some (.inl (cs 1, 4, .inl (rs1))) ∧ (sp_fo m_fo1 fs1 ft1 L) ∧ (sp_FM (sp_nf 5 v.toInt c9 te.toInt pe.toInt bk.2.2.2 0) (sp_nf 1 v.toInt c9 te.toInt pe.toInt bk.2.2.2 0) (sp_ex w v.toInt c9 te.toInt pe.toInt bk.2.2.2 2) (sp_sa w (-1) (-1) bk.2.2.2 0 (sp_U w bk (sp_nm w t9) (sp_nf 0 v.toInt c9 te.toInt pe.toInt bk.2.2.2 0) (sp_nf 1 v.toInt c9 te.toInt pe.toInt bk.2.2.2 0))) L) ∧ ((0 ≤ m_le1.toInt ∧ m_le1.toInt ≤ 276) ∧ (0 ≤ m_fo1.toInt ∧ m_fo1.toInt ≤ 2))))) 0 0 := by
  refine hp_walk (R0 := RX13) (by decide) rfl ?_ (Nat.le_of_ble_eq_true rfl)
  intro p e s m below meth c ls hx hb hr hts hown hlocks hin hml hZ hl
  have hP : hq_P cs G (fun _ => true) V V := hq_P.rf hI
  have hl : lv_has ls 10 [(0, .ref (mo)), (1, .int (v)), (2, .int (te)), (3, .int (pe))] := hl
  have hb_m_tp := hq_rng m_tp
  have hb_m_sz := hq_rng m_sz
  have hb_m_fr := hq_rng m_fr
  have hb_m_bh := hq_rng m_bh
  have hb_m_hd := hq_rng m_hd
  have hb_m_ft := hq_rng m_ft
  have hb_m_fa := hq_rng m_fa
  have hb_m_le := hq_rng m_le
  have hb_m_fo := hq_rng m_fo
  have hb_m_as := hq_rng m_as
  have hb_m_fd := hq_rng m_fd
  have hb_m_bc := hq_rng m_bc
  have hb_m_bg := hq_rng m_bg
  have hb_m_bs := hq_rng m_bs
  have hb_m_be := hq_rng m_be
  have hb_m_b0 := hq_rng m_b0
  have hb_m_b1 := hq_rng m_b1
  have hb_m_cm := hq_rng m_cm
  have hb_m_hc := hq_rng m_hc
  have hb_v := hq_rng v
  have hb_te := hq_rng te
  have hb_pe := hq_rng pe
  have hH0 : hm_H rh rh := hm_H.rf
  have hlv9 := hBm.2.2.2.1.1
  have hvl := (List.getElem?_eq_some_iff.mp ht9).1
  have hvv : (v.toNatClampNeg : Int) = v.toInt := (hq_nn (by omega)).1.symm
  refine lv_aload_n hx hb dX13_all_0 rfl (lv_at hl 0 rfl) ?_
  refine lv_iload_n hx hb dX13_all_1 rfl (lv_at hl 1 rfl) ?_
  refine lv_iload_n hx hb dX13_all_2 rfl (lv_at hl 2 rfl) ?_
  refine lv_iload_n hx hb dX13_all_3 rfl (lv_at hl 3 rfl) ?_
  refine hp_calli (hp_runV (As := [.int (v), .int (te), .int (pe)]) (rest := []) hx hb hml hown hts (y_compN l D cs B G V n hP.1 (q) (mo) (w) (bk) (c9) (rh) (m_tp) (m_sz) (m_fr) (m_bh) (m_hd) (m_ft) (m_fa) (m_le) (m_fo) (m_as) (m_fd) (m_bc) (m_bg) (m_bs) (m_be) (m_b0) (m_b1) (m_cm) (m_hc) (v) (te) (pe)  hc0 hp0 hR hmo hBm hgd2 (by omega) hc9 hn3) hZ hc0 cv_X13_364 rfl rfl ⟨Nat.le_of_ble_eq_true rfl, Nat.le_of_ble_eq_true rfl⟩ rfl hl.1 rfl (Nat.le_of_ble_eq_true rfl) dX13_all_4 ⟨(Nat.le_of_ble_eq_true rfl), (Nat.le_of_ble_eq_true rfl)⟩) hZ (fun r4 V1 n2 _ _ hw3 hZ => ?_)
  obtain ⟨rfl, rfl, hp7⟩ := hw3
  have b8 := hq_rng r4
  have b9 := hp7
  refine lv_istore (lv' := [(4, .int (r4)), (0, .ref (mo)), (1, .int (v)), (2, .int (te)), (3, .int (pe))]) hx hb dX13_all_7 hl (by decide) rfl (fun ls hl => ?_)
  refine lv_iload hx hb dX13_all_9 (lv_at hl 0 rfl) ?_
  refine lv_iconst (v := -1) hx hb dX13_all_11 (by decide) ?_
  have hl10 : (-1 : Int32).toInt = -1 := by decide
  refine lv_icmp_ne (tgt := 23) hx hb dX13_all_12 (by decide) (fun c11 => absurd ((Int32.toInt_inj.mp (by omega) : r4 = -1)) c11) (fun c11 => ?_)
  refine lv_aload_n hx hb dX13_all_15 rfl (lv_at hl 1 rfl) ?_
  refine lv_iload_n hx hb dX13_all_16 rfl (lv_at hl 2 rfl) ?_
  refine lv_iload_n hx hb dX13_all_17 rfl (lv_at hl 3 rfl) ?_
  refine lv_iload_n hx hb dX13_all_18 rfl (lv_at hl 4 rfl) ?_
  refine hp_callv (hp_runV (As := [.int (v), .int (te), .int (pe)]) (rest := []) hx hb hml hown hts (y_simple l D cs B G V n hP.1 (q) (mo) (w) (bk) (t9) (rh) (m_tp) (m_sz) (m_fr) (m_bh) (m_hd) (m_ft) (m_fa) (m_le) (m_fo) (m_as) (m_fd) (m_bc) (m_bg) (m_bs) (m_be) (m_b0) (m_b1) (m_cm) (m_hc) (c9) (v) (te) (pe) (wf) (sf) (bf) (df) (ft) (fs) (rwf) (rs)  hc0 hc1 hc2 hc3 hc4 hc5 hc6 hc7 hc8 hp0 hR hmo hmq hBm hgd hgd2 hoc ht9 hv hc9 hlem) hZ hc0 cv_X13_368 rfl rfl ⟨Nat.le_of_ble_eq_true rfl, Nat.le_of_ble_eq_true rfl⟩ rfl hl.1 rfl (Nat.le_of_ble_eq_true rfl) dX13_all_19 ⟨(Nat.le_of_ble_eq_true rfl), (Nat.le_of_ble_eq_true rfl)⟩) hZ (fun V12 n13 _ _ hw14 hZ => ?_)
  obtain ⟨rfl, hq16, fr17, z18, z19, u20, u21, u22, u23, u24, u25, u26, u27, u28, ho29, ho30, ho31, ho32, ho33, ho34, ho35, ho36, ho37, hp38, hp39, hp40⟩ := hw14
  have b41 := hq_rng z18
  have b42 := hq_rng z19
  have hP := hP.trans hq16 (fun _ h => Bool.noConfusion h)
  have hf43 := hq_rg20 hP.1 (hr_21 hR) ho30
  have hf44 := hq_rg20 hP.1 (hr_22 hR) ho31
  have hf45 := hq_rg20 hP.1 (hr_24 hR) ho32
  have hf46 := hq_rg20 hP.1 (hr_25 hR) ho34
  have hf47 := hq_rg hP.1 (hr_28 hR) ho35
  have hf48 := hq_rg hP.1 (hr_29 hR) ho36
  have hf49 := hq_rg hP.1 (hr_30 hR) ho37
  exact hp_vret hx hb hr hlocks hZ ⟨rfl, hP, (fun x8 hne0 hne1 hne2 hne3 hne4 hne5 hne6 hne7 hne8 => fr17 x8 hne0 hne1 hne2 hne3 hne4 hne5 hne6 hne7 hne8), z18, z19, u20, u21, u22, u23, u24, u25, u26, u27, u28, ho29, ho30, ho31, ho32, ho33, ho34, ho35, ho36, ho37, hp38, hp39, hp40⟩ dX13_all_22

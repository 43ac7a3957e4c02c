set_option maxHeartbeats 4000000 in
set_option maxRecDepth 100000 in
theorem y_answerC (l : Launch) (D : va_G) (cs : Nat → ClassId) (B : Nat) (G : hq_G) (V : hp_V) (n : Nat) (hI : hq_I cs G V) (q : Nat) (mo : Nat) (w : sp_W) (kb : Nat) (bk : sp_B) (wt : sp_W) (rh : hm_Rh) (m_tp : Int32) (m_sz : Int32) (m_fr : Int32) (m_bh : Int32) (m_hd : Int32) (m_ft : Int32) (m_fa : Int32) (m_le : Int32) (m_fo : Int32) (m_as : Int32) (m_fd : Int32) (m_bc : Int32) (m_bg : Int32) (m_bs : Int32) (m_be : Int32) (m_b0 : Int32) (m_b1 : Int32) (m_cm : Int32) (m_hc : Int32) (k : Int32) (v : Int32) (te : Int32) (pe : Int32) (wh : Nat → Int32) (mi : Nat → Int32) (ta : Nat → Int32) (tg : Nat → Int32) (hc0 : V (mo) = some (.inr (13, hm_o q (m_tp) (m_sz) (m_fr) (m_bh) (m_hd) (m_ft) (m_fa) (m_le) (m_fo) (m_as) (m_fd) (m_bc) (m_bg) (m_bs) (m_be) (m_b0) (m_b1) (m_cm) (m_hc)))) (hc1 : V (q + 20) = some (.inl (cs 0, 4000, .inl (tg)))) (hc2 : V (q + 44) = some (.inl (cs 1, 2, .inl (wh)))) (hc3 : V (q + 45) = some (.inl (cs 1, 2, .inl (mi)))) (hc4 : V (q + 46) = some (.inl (cs 1, 2, .inl (ta)))) (hp0 : hm_AR cs V q rh) (hR : hq_RT G q) (hmo : G mo = some (24, 0, 0, 0)) (hmq : mo < q) (hT2 : hk_T2 G kb q) (hBm : hm_BK rh 0 w bk) (hgd : sp_good w bk) (hgd2 : sp_good2 bk) (hoc : sp_okc w) (hok : sp_okb wt) (htp : m_tp.toInt = wt.2) (htw : ∀ k : Nat, (k : Int) < wt.2 → (tg k).toInt = wt.1 k) (hiv0 : 0 ≤ m_tp.toInt ∧ m_tp.toInt ≤ 4000) (hiv1 : 0 ≤ m_sz.toInt ∧ m_sz.toInt ≤ 4000) (hiv2 : 0 ≤ m_le.toInt ∧ m_le.toInt ≤ 276) (hiv3 : 0 ≤ m_fo.toInt ∧ m_fo.toInt ≤ 4) (hiv4 : 0 ≤ m_as.toInt ∧ m_as.toInt ≤ 4000) (hiv5 : 0 ≤ m_fd.toInt ∧ m_fd.toInt ≤ 900) (hiv6 : 0 ≤ m_cm.toInt ∧ m_cm.toInt ≤ 2) (hiv7 : 0 ≤ m_hc.toInt ∧ m_hc.toInt ≤ 1) (hn39 : ¬ sp_nfv bk 3 v.toInt te.toInt pe.toInt = -1) : hp_M l yX13_answer cX13_answer 6 (some .int) ({ frames := 8, cells := 0, slots := 0, locals := 202 }) D cs B V n [.ref (mo), .int (k), .int (v), .int (te), .int (pe)] (hp_QI D cs B (fun r V' n' => n = n' ∧ hq_P cs G (fun _ => true) V V' ∧ (∀ x, x ≠ mo → x ≠ q + 21 → x ≠ q + 22 → x ≠ q + 24 → x ≠ q + 23 → x ≠ q + 25 → x ≠ q + 28 → x ≠ q + 29 → x ≠ q + 30 → x ≠ q + 37 → x ≠ q + 44 → x ≠ q + 45 → x ≠ q + 46 → (∃ t, G x = some t ∧ (hq_grp t).1 ≠ 1 ∧ (hq_grp t).1 ≠ 43 ∧ (hq_grp t).1 ≠ 44 ∧ (hq_grp t).1 ≠ 45 ∧ (hq_grp t).1 ≠ 48) → V' x = V x) ∧ (∃ m_tp1 : Int32, ∃ m_as1 : Int32, ∃ m_fo1 : Int32, ∃ m_le1 : Int32, ∃ m_bc1 : Int32, ∃ m_bg1 : Int32, ∃ m_bs1 : Int32, ∃ m_be1 : Int32, ∃ m_b01 : Int32, ∃ m_b11 : Int32, ∃ m_cm1 : Int32, ∃ m_hc1 : Int32, ∃ wh1 : Nat → Int32, ∃ mi1 : Nat → Int32, ∃ ta1 : Nat → Int32, V' (mo) = some (.inr (13, hm_o q (m_tp1) (m_sz) (m_fr) (m_bh) (m_hd) (m_ft) (m_fa) (m_le1) (m_fo1) (m_as1) (m_fd) (m_bc1) (m_bg1) (m_bs1) (m_be1) (m_b01) (m_b11) (m_cm1) (m_hc1))) ∧ V' (q + 44) = some (.inl (cs 1, 2, .inl (wh1))) ∧ V' (q + 45) = some (.inl (cs 1, 2, .inl (mi1))) ∧ V' (q + 46) = some (.inl (cs 1, 2, .inl (ta1))) ∧ ((sp_Z w bk (sp_tw wt) k.toInt v.toInt te.toInt pe.toInt ∧ m_hc1.toInt = 1 ∧ sp_hl m_cm1 wh1 mi1 ta1 (sp_TL w bk (sp_tw wt) v.toInt te.toInt pe.toInt)) ∨ (¬ sp_Z w bk (sp_tw wt) k.toInt v.toInt te.toInt pe.toInt ∧ m_hc1 = m_hc ∧ m_cm1 = m_cm ∧ wh1 = wh ∧ mi1 = mi ∧ ta1 = ta)) ∧ (m_tp1.toInt = 0) ∧ ((0 ≤ m_tp1.toInt ∧ m_tp1.toInt ≤ 4000) ∧ (0 ≤ m_le1.toInt ∧ m_le1.toInt ≤ 276) ∧ (0 ≤ m_fo1.toInt ∧ m_fo1.toInt ≤ 4) ∧ (0 ≤ m_as1.toInt ∧ m_as1.toInt ≤ 4000) ∧ (0 ≤ m_cm1.toInt ∧ m_cm1.toInt ≤ 2) ∧ (0 ≤ m_hc1.toInt ∧ m_hc1.toInt ≤ 1))))) 0 0 := by
  refine hp_walk (R0 := RX13) (by decide) rfl ?_ (Nat.le_of_ble_eq_true rfl)
  intro p e s m below meth c ls hx hb hr hts hown hlocks hin hml hZ hl
  have hP : hq_P cs G (fun _ => true) V V := hq_P.rf hI
  have hl : lv_has ls 6 [(0, .ref (mo)), (1, .int (k)), (2, .int (v)), (3, .int (te)), (4, .int (pe))] := hl
  have hb_m_tp := hq_rng m_tp
  have hb_m_sz := hq_rng m_sz
  have hb_m_fr := hq_rng m_fr
  have hb_m_bh := hq_rng m_bh
  have hb_m_hd := hq_rng m_hd
  have hb_m_ft := hq_rng m_ft
  have hb_m_fa := hq_rng m_fa
  have hb_m_le := hq_rng m_le
  have hb_m_fo := hq_rng m_fo
  have hb_m_as := hq_rng m_as
  have hb_m_fd := hq_rng m_fd
  have hb_m_bc := hq_rng m_bc
  have hb_m_bg := hq_rng m_bg
  have hb_m_bs := hq_rng m_bs
  have hb_m_be := hq_rng m_be
  have hb_m_b0 := hq_rng m_b0
  have hb_m_b1 := hq_rng m_b1
  have hb_m_cm := hq_rng m_cm
  have hb_m_hc := hq_rng m_hc
  have hb_k := hq_rng k
  have hb_v := hq_rng v
  have hb_te := hq_rng te
  have hb_pe := hq_rng pe
  have hH0 : hm_H rh rh := hm_H.rf
  have hf1 := hq_rg hI (hr_44 hR) hc2
  have hf2 := hq_rg hI (hr_45 hR) hc3
  have hf3 := hq_rg hI (hr_46 hR) hc4
  obtain ⟨-, -, -, t2d⟩ := id hT2
  have hlv9 := hBm.2.2.2.1.1
  have hll9 := hBm.2.2.2.2.2.1
  have hvl9 := hBm.2.2.2.2.1.1
  have hb19 := hBm.2.1
  have hok1 := hok.1
  refine lv_aload_n hx hb dX13_answer_0 rfl (lv_at hl 0 rfl) ?_
  obtain ⟨hN6, g5, eV4⟩ := hq_o20 hP.1 (hr_37 hR)
  refine hp_callv (hp_runV (As := []) (rest := []) hx hb hml hown hts (y_ask l D cs B G V n hP.1 (q) (mo) (wt) (m_tp) (m_sz) (m_fr) (m_bh) (m_hd) (m_ft) (m_fa) (m_le) (m_fo) (m_as) (m_fd) (m_bc) (m_bg) (m_bs) (m_be) (m_b0) (m_b1) (m_cm) (m_hc) (tg) (g5)  hc0 hc1 eV4  hR hmo hmq hok (by omega) htw) hZ hc0 cv_X13_392 rfl rfl ⟨Nat.le_of_ble_eq_true rfl, Nat.le_of_ble_eq_true rfl⟩ rfl hl.1 rfl (Nat.le_of_ble_eq_true rfl) dX13_answer_1 ⟨(Nat.le_of_ble_eq_true rfl), (Nat.le_of_ble_eq_true rfl)⟩) hZ (fun V8 n9 _ _ hw10 hZ => ?_)
  obtain ⟨rfl, hq12, fr13, u14, ho15, ho16, hp17⟩ := hw10
  have hP := hP.trans hq12 (fun _ h => Bool.noConfusion h)
  have hf18 := hq_rg20 hP.1 (hr_37 hR) ho16
  have hask := hp17
  have ha1 := hask.1
  refine lv_iload_n hx hb dX13_answer_4 rfl (lv_at hl 1 rfl) ?_
  refine hp_calli (hp_runS (As := [.int (k)]) (rest := []) hx hb hml hown hts (y_isLn l D cs B G V8 n hP.1 (k)    ) hZ cv_X13_456 rfl rfl ⟨Nat.le_of_ble_eq_true rfl, Nat.le_of_ble_eq_true rfl⟩ rfl hl.1 rfl (Nat.le_of_ble_eq_true rfl) dX13_answer_5 ⟨(Nat.le_of_ble_eq_true rfl), (Nat.le_of_ble_eq_true rfl)⟩) hZ (fun r22 V19 n20 _ _ hw21 hZ => ?_)
  obtain ⟨rfl, rfl, hp25⟩ := hw21
  have b26 := hq_rng r22
  refine lv_if_eq (tgt := 22) hx hb dX13_answer_8 (by decide) (fun c27 => ?_) (fun c27 => ?_)
  · have c27 : (r22).toInt = (0 : Int) := hq_eqi.mp c27
    refine lv_bipush (v := -2) hx hb dX13_answer_22 (by decide) ?_
    have hl28 : (-2 : Int32).toInt = -2 := by decide
    have fx29 : V8 (q + 44) = some (.inl (cs 1, 2, .inl (wh))) := (fr13 (q + 44) (hq_tne (hr_44 hR) hmo (by simp)) (hq_tne (hr_44 hR) (hr_37 hR) (by simp))).trans (hc2)
    have fx30 : V8 (q + 45) = some (.inl (cs 1, 2, .inl (mi))) := (fr13 (q + 45) (hq_tne (hr_45 hR) hmo (by simp)) (hq_tne (hr_45 hR) (hr_37 hR) (by simp))).trans (hc3)
    have fx31 : V8 (q + 46) = some (.inl (cs 1, 2, .inl (ta))) := (fr13 (q + 46) (hq_tne (hr_46 hR) hmo (by simp)) (hq_tne (hr_46 hR) (hr_37 hR) (by simp))).trans (hc4)
    have hl32 : (0 : Int32).toInt = 0 := by decide
    exact hp_iret hx hb hr hlocks hZ ⟨rfl, hP, (fun x8 hne0 hne1 hne2 hne3 hne4 hne5 hne6 hne7 hne8 hne9 hne10 hne11 hne12 hne13 => fr13 x8 hne0 hne9), 0, m_tp, m_fo, m_le, m_bc, m_bg, m_bs, m_be, m_b0, m_b1, m_cm, m_hc, wh, mi, ta, ho15, fx29, fx30, fx31, Or.inr ⟨(fun g9 => by have h9 := g9.1; unfold sp_pl at h9; omega), rfl, rfl, rfl, rfl, rfl⟩, by omega, by omega⟩ dX13_answer_24
  · have c27 : ¬ (r22).toInt = (0 : Int) := fun h9 => c27 (hq_eqi.mpr h9)
    have hlr9 : 0 ≤ k.toInt ∧ k.toInt < 8 := by omega
    refine lv_aload_n hx hb dX13_answer_11 rfl (lv_at hl 0 rfl) ?_
    refine lv_iload_n hx hb dX13_answer_12 rfl (lv_at hl 2 rfl) ?_
    refine lv_iload_n hx hb dX13_answer_13 rfl (lv_at hl 3 rfl) ?_
    refine lv_iload hx hb dX13_answer_14 (lv_at hl 4 rfl) ?_
    have hl33 : (0 : Int32).toInt = 0 := by decide
    have pk34 := hp0.keep (fun x7 (hx7 : q ≤ x7 ∧ x7 < q + 19) => fr13 x7 (by omega) (by omega))
    refine hp_calli (hp_runV (As := [.int (v), .int (te), .int (pe)]) (rest := []) hx hb hml hown hts (y_isPl l D cs B G V8 n hP.1 (q) (mo) (rh) (0) (m_sz) (m_fr) (m_bh) (m_hd) (m_ft) (m_fa) (m_le) (m_fo) (m_tp) (m_fd) (m_bc) (m_bg) (m_bs) (m_be) (m_b0) (m_b1) (m_cm) (m_hc) (v) (te) (pe)  ho15 pk34 hR hmo) hZ ho15 cv_X13_380 rfl rfl ⟨Nat.le_of_ble_eq_true rfl, Nat.le_of_ble_eq_true rfl⟩ rfl hl.1 rfl (Nat.le_of_ble_eq_true rfl) dX13_answer_16 ⟨(Nat.le_of_ble_eq_true rfl), (Nat.le_of_ble_eq_true rfl)⟩) hZ (fun r38 V35 n36 _ _ hw37 hZ => ?_)
    obtain ⟨rfl, rfl, hp41⟩ := hw37
    have b42 := hq_rng r38
    refine lv_if_ne (tgt := 25) hx hb dX13_answer_19 (by decide) (fun c43 => ?_) (fun c43 => ?_)
    · have c43 : ¬ (r38).toInt = (0 : Int) := fun h9 => c43 (hq_eqi.mpr h9)
      have hpl9 : 0 ≤ v.toInt ∧ v.toInt < (rh 1 0).toInt ∧ 0 ≤ te.toInt ∧ te.toInt < 5 ∧ 0 ≤ pe.toInt ∧ pe.toInt < 6 := by omega
      have hvv : (v.toNatClampNeg : Int) = v.toInt := (hq_nn (by omega)).1.symm
      obtain ⟨t9, ht9⟩ : ∃ t, bk.2.1[v.toNatClampNeg]? = some t := ⟨_, List.getElem?_eq_getElem (by omega)⟩
      obtain ⟨c9, hc90⟩ : ∃ t, bk.2.2.1[v.toNatClampNeg]? = some t := ⟨_, List.getElem?_eq_getElem (by omega)⟩
      have hcd : sp_c9 bk v.toInt = c9 := sp_getD hc90
      have hnd : sp_nmv w bk v.toInt = (sp_nm w t9) := congrArg (sp_nm w) (sp_getD ht9)
      have hc9 : (rh 9 (v).toNatClampNeg).toInt = c9 := by have h9 := hBm.2.2.2.2.1.2 _ _ hc90; rw [show 30 * 0 + v.toNatClampNeg = v.toNatClampNeg by omega] at h9; exact h9
      have hn3 : ¬ (sp_nf 3 v.toInt c9 te.toInt pe.toInt bk.2.2.2 0) = -1 := by have h9 := hn39; unfold sp_nfv at h9; rw [hcd] at h9; exact h9
      refine lv_aload_n hx hb dX13_answer_25 rfl (lv_at hl 0 rfl) ?_
      refine lv_iload_n hx hb dX13_answer_26 rfl (lv_at hl 1 rfl) ?_
      refine lv_iload_n hx hb dX13_answer_27 rfl (lv_at hl 2 rfl) ?_
      refine lv_iload_n hx hb dX13_answer_28 rfl (lv_at hl 3 rfl) ?_
      refine lv_iload hx hb dX13_answer_29 (lv_at hl 4 rfl) ?_
      refine hp_calli (hp_runS (As := [.int (v), .int (te), .int (pe)]) (rest := [.int (k), .ref (mo)]) hx hb hml hown hts (y_plOf l D cs B G V8 n hP.1 (v) (te) (pe)    ) hZ cv_X13_459 rfl rfl ⟨Nat.le_of_ble_eq_true rfl, Nat.le_of_ble_eq_true rfl⟩ rfl hl.1 rfl (Nat.le_of_ble_eq_true rfl) dX13_answer_31 ⟨(Nat.le_of_ble_eq_true rfl), (Nat.le_of_ble_eq_true rfl)⟩) hZ (fun r47 V44 n45 _ _ hw46 hZ => ?_)
      obtain ⟨rfl, rfl⟩ := hw46
      have b50 := hq_rng r47
      have hl57 : (0 : Int32).toInt = 0 := by decide
      refine hp_callv (hp_runV (As := [.int (k), .int (r47)]) (rest := []) hx hb hml hown hts (t_X13_remember l D cs B G  V8 n hP.1 q hR (mo) hmo (k) (r47) ho15  (by omega) (by omega) (by omega) (by omega) (by omega) (by omega) (by omega) (by omega) (by omega) (by omega)) hZ ho15 cv_X13_462 rfl rfl ⟨Nat.le_of_ble_eq_true rfl, Nat.le_of_ble_eq_true rfl⟩ rfl hl.1 rfl (Nat.le_of_ble_eq_true rfl) dX13_answer_34 ⟨(Nat.le_of_ble_eq_true rfl), (Nat.le_of_ble_eq_true rfl)⟩) hZ (fun V51 n52 _ _ hw53 hZ => ?_)
      obtain ⟨rfl, hq55, ho58⟩ := hw53
      have hP := hP.trans hq55 (fun _ h => Bool.noConfusion h)
      refine lv_aload_n hx hb dX13_answer_37 rfl (lv_at hl 0 rfl) ?_
      refine lv_iload_n hx hb dX13_answer_38 rfl (lv_at hl 2 rfl) ?_
      refine lv_iload_n hx hb dX13_answer_39 rfl (lv_at hl 3 rfl) ?_
      refine lv_iload hx hb dX13_answer_40 (lv_at hl 4 rfl) ?_
      have pk59 := pk34.keep (fun x7 (hx7 : q ≤ x7 ∧ x7 < q + 19) => hT2.fr hq55 (fun g hg => by unfold hk_gr at hg; first | rfl | (simp; omega)) x7 (by unfold hk_In; omega))
      have hVQ9 := hm_VQ.of (pk59) hBm hgd
      have hl66 : (0 : Int32).toInt = 0 := by decide
      obtain ⟨rf72, hrf73⟩ : ∃ f : Nat → Int32, f = rh 14 := ⟨_, rfl⟩
      have ea74 : V51 (q + 14) = some (.inl (cs 1, 120, .inl (rf72))) := by rw [hrf73]; exact pk59 14 (by decide)
      have hra75 := hq_rg hP.1 (hr_14 hR) ea74
      obtain ⟨rf77, hrf78⟩ : ∃ f : Nat → Int32, f = rh 15 := ⟨_, rfl⟩
      have ea79 : V51 (q + 15) = some (.inl (cs 1, 120, .inl (rf77))) := by rw [hrf78]; exact pk59 15 (by decide)
      have hra80 := hq_rg hP.1 (hr_15 hR) ea79
      obtain ⟨rf82, hrf83⟩ : ∃ f : Nat → Int32, f = rh 10 := ⟨_, rfl⟩
      have ea84 : V51 (q + 10) = some (.inl (cs 1, 120, .inl (rf82))) := by rw [hrf83]; exact pk59 10 (by decide)
      have hra85 := hq_rg hP.1 (hr_10 hR) ea84
      obtain ⟨rf87, hrf88⟩ : ∃ f : Nat → Int32, f = rh 2 := ⟨_, rfl⟩
      have ea89 : V51 (q + 2) = some (.inl (cs 1, 2, .inl (rf87))) := by rw [hrf88]; exact pk59 2 (by decide)
      have hra90 := hq_rg hP.1 (hr_2 hR) ea89
      refine hp_callv (hp_runV (As := [.int (v), .int (te), .int (pe)]) (rest := []) hx hb hml hown hts (t_X13_all l D cs B G  V51 n hP.1 q hR (mo) hmo (v) (te) (pe) ho58  (by omega) (by omega) (by omega) (by omega) (by omega) (by omega) (by omega) (by omega) ea74 ea79 ea84 ea89 (by omega) (by omega) hVQ9) hZ ho58 cv_X13_384 rfl rfl ⟨Nat.le_of_ble_eq_true rfl, Nat.le_of_ble_eq_true rfl⟩ rfl hl.1 rfl (Nat.le_of_ble_eq_true rfl) dX13_answer_42 ⟨(Nat.le_of_ble_eq_true rfl), (Nat.le_of_ble_eq_true rfl)⟩) hZ (fun V60 n61 _ _ hw62 hZ => ?_)
      obtain ⟨rfl, hq64, ⟨z67, z68, ho69, hi70, hi71⟩, ho76, ho81, ho86, ho91⟩ := hw62
      have hP := hP.trans hq64 (fun _ h => Bool.noConfusion h)
      have b92 := hq_rng z68
      have b93 := hq_rng z67
      refine lv_aload_n hx hb dX13_answer_45 rfl (lv_at hl 0 rfl) ?_
      have hl100 : (0 : Int32).toInt = 0 := by decide
      refine hp_calli (hp_runV (As := []) (rest := []) hx hb hml hown hts (t_X13_formAsked l D cs B G  V60 n hP.1 q hR (mo) hmo ho69  (by omega) (by omega) (by omega) (by omega) (by omega) (by omega) (by omega) (by omega) ) hZ ho69 cv_X13_398 rfl rfl ⟨Nat.le_of_ble_eq_true rfl, Nat.le_of_ble_eq_true rfl⟩ rfl hl.1 rfl (Nat.le_of_ble_eq_true rfl) dX13_answer_46 ⟨(Nat.le_of_ble_eq_true rfl), (Nat.le_of_ble_eq_true rfl)⟩) hZ (fun r97 V94 n95 _ _ hw96 hZ => ?_)
      obtain ⟨rfl, hq98, ho101, hr99⟩ := hw96
      have hP := hP.trans hq98 (fun _ _ => rfl)
      have b102 := hq_rng r97
      refine lv_istore (lv' := [(5, .int (r97)), (0, .ref (mo)), (1, .int (k)), (2, .int (v)), (3, .int (te)), (4, .int (pe))]) hx hb dX13_answer_49 hl (by decide) rfl (fun ls hl => ?_)
      refine lv_iload hx hb dX13_answer_51 (lv_at hl 0 rfl) ?_
      refine lv_iconst (v := -1) hx hb dX13_answer_53 (by decide) ?_
      refine lv_icmp_eq (tgt := 66) hx hb dX13_answer_54 (by decide) (fun c103 => ?_) (fun c103 => ?_)
      · have c103 : (r97).toInt = (-1 : Int) := hq_eqi.mp c103
        refine lv_aload_n hx hb dX13_answer_66 rfl (lv_at hl 1 rfl) ?_
        refine hp_get (v := .int (z67)) hx hb hts hown hZ ho101 fl_X13_344 rfl dX13_answer_67 ?_
        refine lv_if_eq (tgt := 86) hx hb dX13_answer_70 (by decide) (fun c104 => ?_) (fun c104 => ?_)
        · have c104 : (z67).toInt = (0 : Int) := hq_eqi.mp c104
          refine lv_bipush (v := -5) hx hb dX13_answer_86 (by decide) ?_
          have hl105 : (-5 : Int32).toInt = -5 := by decide
          have fx106 : V94 (q + 44) = some (.inl (cs 1, 2, .inl (wh))) := (hq98.2 (q + 44) _ (hr_44 hR) rfl).trans ((hq64.2 (q + 44) _ (hr_44 hR) rfl).trans ((hq55.2 (q + 44) _ (hr_44 hR) rfl).trans ((fr13 (q + 44) (hq_tne (hr_44 hR) hmo (by simp)) (hq_tne (hr_44 hR) (hr_37 hR) (by simp))).trans (hc2))))
          have fx107 : V94 (q + 45) = some (.inl (cs 1, 2, .inl (mi))) := (hq98.2 (q + 45) _ (hr_45 hR) rfl).trans ((hq64.2 (q + 45) _ (hr_45 hR) rfl).trans ((hq55.2 (q + 45) _ (hr_45 hR) rfl).trans ((fr13 (q + 45) (hq_tne (hr_45 hR) hmo (by simp)) (hq_tne (hr_45 hR) (hr_37 hR) (by simp))).trans (hc3))))
          have fx108 : V94 (q + 46) = some (.inl (cs 1, 2, .inl (ta))) := (hq98.2 (q + 46) _ (hr_46 hR) rfl).trans ((hq64.2 (q + 46) _ (hr_46 hR) rfl).trans ((hq55.2 (q + 46) _ (hr_46 hR) rfl).trans ((fr13 (q + 46) (hq_tne (hr_46 hR) hmo (by simp)) (hq_tne (hr_46 hR) (hr_37 hR) (by simp))).trans (hc4))))
          have hl109 : (0 : Int32).toInt = 0 := by decide
          exact hp_iret hx hb hr hlocks hZ ⟨rfl, hP, (fun x8 hne0 hne1 hne2 hne3 hne4 hne5 hne6 hne7 hne8 hne9 hne10 hne11 hne12 hne13 => (hx_fg (x := x8) hq98 (by obtain ⟨t9, h91, h92⟩ := hne13; exact ⟨t9, h91, by simp_all⟩)).trans ((hx_fg (x := x8) hq64 (by obtain ⟨t9, h91, h92⟩ := hne13; exact ⟨t9, h91, by simp_all⟩)).trans ((hx_fg (x := x8) hq55 (by obtain ⟨t9, h91, h92⟩ := hne13; exact ⟨t9, h91, by simp_all⟩)).trans (fr13 x8 hne0 hne9)))), 0, m_tp, z67, z68, m_bc, m_bg, m_bs, m_be, m_b0, m_b1, m_cm, m_hc, wh, mi, ta, ho101, fx106, fx107, fx108, Or.inr ⟨(fun g9 => hn39 g9.2.1), rfl, rfl, rfl, rfl, rfl⟩, by omega, by omega⟩ dX13_answer_88
        · have c104 : ¬ (z67).toInt = (0 : Int) := fun h9 => c104 (hq_eqi.mpr h9)
          refine lv_aload_n hx hb dX13_answer_73 rfl (lv_at hl 1 rfl) ?_
          refine lv_iconst (v := 3) hx hb dX13_answer_74 (by decide) ?_
          refine lv_iload_n hx hb dX13_answer_75 rfl (lv_at hl 3 rfl) ?_
          refine lv_iload_n hx hb dX13_answer_76 rfl (lv_at hl 4 rfl) ?_
          refine lv_iload hx hb dX13_answer_77 (lv_at hl 5 rfl) ?_
          have hl110 : (0 : Int32).toInt = 0 := by decide
          have hl111 : (3 : Int32).toInt = 3 := by decide
          have pk112 := pk59.keep (fun x7 (hx7 : q ≤ x7 ∧ x7 < q + 19) => (hT2.fr hq98 (fun g hg => by unfold hk_gr at hg; first | rfl | (simp; omega)) x7 (by unfold hk_In; omega)).trans (hT2.fr hq64 (fun g hg => by unfold hk_gr at hg; first | rfl | (simp; omega)) x7 (by unfold hk_In; omega)))
          refine hp_calli (hp_runV (As := [.int (3), .int (v), .int (te), .int (pe)]) (rest := []) hx hb hml hown hts (y_fo l D cs B G V94 n hP.1 (q) (mo) (w) (bk) (c9) (rh) (0) (m_sz) (m_fr) (m_bh) (m_hd) (m_ft) (m_fa) (z68) (z67) (m_tp) (m_fd) (m_bc) (m_bg) (m_bs) (m_be) (m_b0) (m_b1) (m_cm) (m_hc) (3) (v) (te) (pe)  ho101 pk112 hR hmo hBm hgd2 (by decide) (by omega) hc9) hZ ho101 cv_X13_347 rfl rfl ⟨Nat.le_of_ble_eq_true rfl, Nat.le_of_ble_eq_true rfl⟩ rfl hl.1 rfl (Nat.le_of_ble_eq_true rfl) dX13_answer_79 ⟨(Nat.le_of_ble_eq_true rfl), (Nat.le_of_ble_eq_true rfl)⟩) hZ (fun r116 V113 n114 _ _ hw115 hZ => ?_)
          obtain ⟨rfl, rfl, hp119⟩ := hw115
          have b120 := hq_rng r116
          have hf3 := hp119
          rw [show (3 : Int32).toInt = 3 by decide] at hf3
          refine lv_iconst (v := -1) hx hb dX13_answer_82 (by decide) ?_
          refine lv_icmp_eq (tgt := 89) hx hb dX13_answer_83 (by decide) (fun c121 => ?_) (fun c121 => ?_)
          · have c121 : (r116).toInt = (-1 : Int) := hq_eqi.mp c121
            exfalso
            omega
          · have c121 : ¬ (r116).toInt = (-1 : Int) := fun h9 => c121 (hq_eqi.mpr h9)
            refine lv_bipush (v := -5) hx hb dX13_answer_86 (by decide) ?_
            have hl122 : (-5 : Int32).toInt = -5 := by decide
            have fx123 : V94 (q + 44) = some (.inl (cs 1, 2, .inl (wh))) := (hq98.2 (q + 44) _ (hr_44 hR) rfl).trans ((hq64.2 (q + 44) _ (hr_44 hR) rfl).trans ((hq55.2 (q + 44) _ (hr_44 hR) rfl).trans ((fr13 (q + 44) (hq_tne (hr_44 hR) hmo (by simp)) (hq_tne (hr_44 hR) (hr_37 hR) (by simp))).trans (hc2))))
            have fx124 : V94 (q + 45) = some (.inl (cs 1, 2, .inl (mi))) := (hq98.2 (q + 45) _ (hr_45 hR) rfl).trans ((hq64.2 (q + 45) _ (hr_45 hR) rfl).trans ((hq55.2 (q + 45) _ (hr_45 hR) rfl).trans ((fr13 (q + 45) (hq_tne (hr_45 hR) hmo (by simp)) (hq_tne (hr_45 hR) (hr_37 hR) (by simp))).trans (hc3))))
            have fx125 : V94 (q + 46) = some (.inl (cs 1, 2, .inl (ta))) := (hq98.2 (q + 46) _ (hr_46 hR) rfl).trans ((hq64.2 (q + 46) _ (hr_46 hR) rfl).trans ((hq55.2 (q + 46) _ (hr_46 hR) rfl).trans ((fr13 (q + 46) (hq_tne (hr_46 hR) hmo (by simp)) (hq_tne (hr_46 hR) (hr_37 hR) (by simp))).trans (hc4))))
            have hl126 : (0 : Int32).toInt = 0 := by decide
            exact hp_iret hx hb hr hlocks hZ ⟨rfl, hP, (fun x8 hne0 hne1 hne2 hne3 hne4 hne5 hne6 hne7 hne8 hne9 hne10 hne11 hne12 hne13 => (hx_fg (x := x8) hq98 (by obtain ⟨t9, h91, h92⟩ := hne13; exact ⟨t9, h91, by simp_all⟩)).trans ((hx_fg (x := x8) hq64 (by obtain ⟨t9, h91, h92⟩ := hne13; exact ⟨t9, h91, by simp_all⟩)).trans ((hx_fg (x := x8) hq55 (by obtain ⟨t9, h91, h92⟩ := hne13; exact ⟨t9, h91, by simp_all⟩)).trans (fr13 x8 hne0 hne9)))), 0, m_tp, z67, z68, m_bc, m_bg, m_bs, m_be, m_b0, m_b1, m_cm, m_hc, wh, mi, ta, ho101, fx123, fx124, fx125, Or.inr ⟨(fun g9 => hn39 g9.2.1), rfl, rfl, rfl, rfl, rfl⟩, by omega, by omega⟩ dX13_answer_88
      · have c103 : ¬ (r97).toInt = (-1 : Int) := fun h9 => c103 (hq_eqi.mpr h9)
        refine lv_aload_n hx hb dX13_answer_57 rfl (lv_at hl 1 rfl) ?_
        refine lv_iload_n hx hb dX13_answer_58 rfl (lv_at hl 2 rfl) ?_
        refine lv_iload hx hb dX13_answer_59 (lv_at hl 0 rfl) ?_
        have hl133 : (0 : Int32).toInt = 0 := by decide
        refine hp_callv (hp_runV (As := [.int (k), .int (r97)]) (rest := []) hx hb hml hown hts (t_X13_praise l D cs B G  V94 n hP.1 q hR (mo) hmo (k) (r97) ho101  (by omega) (by omega) (by omega) (by omega) (by omega) (by omega) (by omega) (by omega) (by omega) (by omega) (by omega) (by omega)) hZ ho101 cv_X13_465 rfl rfl ⟨Nat.le_of_ble_eq_true rfl, Nat.le_of_ble_eq_true rfl⟩ rfl hl.1 rfl (Nat.le_of_ble_eq_true rfl) dX13_answer_61 ⟨(Nat.le_of_ble_eq_true rfl), (Nat.le_of_ble_eq_true rfl)⟩) hZ (fun V127 n128 _ _ hw129 hZ => ?_)
        obtain ⟨rfl, hq131, ho134⟩ := hw129
        have hP := hP.trans hq131 (fun _ h => Bool.noConfusion h)
        refine lv_iconst (v := 0) hx hb dX13_answer_64 (by decide) ?_
        have hl135 : (0 : Int32).toInt = 0 := by decide
        have fx136 : V127 (q + 44) = some (.inl (cs 1, 2, .inl (wh))) := (hq131.2 (q + 44) _ (hr_44 hR) rfl).trans ((hq98.2 (q + 44) _ (hr_44 hR) rfl).trans ((hq64.2 (q + 44) _ (hr_44 hR) rfl).trans ((hq55.2 (q + 44) _ (hr_44 hR) rfl).trans ((fr13 (q + 44) (hq_tne (hr_44 hR) hmo (by simp)) (hq_tne (hr_44 hR) (hr_37 hR) (by simp))).trans (hc2)))))
        have fx137 : V127 (q + 45) = some (.inl (cs 1, 2, .inl (mi))) := (hq131.2 (q + 45) _ (hr_45 hR) rfl).trans ((hq98.2 (q + 45) _ (hr_45 hR) rfl).trans ((hq64.2 (q + 45) _ (hr_45 hR) rfl).trans ((hq55.2 (q + 45) _ (hr_45 hR) rfl).trans ((fr13 (q + 45) (hq_tne (hr_45 hR) hmo (by simp)) (hq_tne (hr_45 hR) (hr_37 hR) (by simp))).trans (hc3)))))
        have fx138 : V127 (q + 46) = some (.inl (cs 1, 2, .inl (ta))) := (hq131.2 (q + 46) _ (hr_46 hR) rfl).trans ((hq98.2 (q + 46) _ (hr_46 hR) rfl).trans ((hq64.2 (q + 46) _ (hr_46 hR) rfl).trans ((hq55.2 (q + 46) _ (hr_46 hR) rfl).trans ((fr13 (q + 46) (hq_tne (hr_46 hR) hmo (by simp)) (hq_tne (hr_46 hR) (hr_37 hR) (by simp))).trans (hc4)))))
        have hl139 : (0 : Int32).toInt = 0 := by decide
        exact hp_iret hx hb hr hlocks hZ ⟨rfl, hP, (fun x8 hne0 hne1 hne2 hne3 hne4 hne5 hne6 hne7 hne8 hne9 hne10 hne11 hne12 hne13 => (hx_fg (x := x8) hq131 (by obtain ⟨t9, h91, h92⟩ := hne13; exact ⟨t9, h91, by simp_all⟩)).trans ((hx_fg (x := x8) hq98 (by obtain ⟨t9, h91, h92⟩ := hne13; exact ⟨t9, h91, by simp_all⟩)).trans ((hx_fg (x := x8) hq64 (by obtain ⟨t9, h91, h92⟩ := hne13; exact ⟨t9, h91, by simp_all⟩)).trans ((hx_fg (x := x8) hq55 (by obtain ⟨t9, h91, h92⟩ := hne13; exact ⟨t9, h91, by simp_all⟩)).trans (fr13 x8 hne0 hne9))))), 0, m_tp, z67, z68, m_bc, m_bg, m_bs, m_be, m_b0, m_b1, m_cm, m_hc, wh, mi, ta, ho134, fx136, fx137, fx138, Or.inr ⟨(fun g9 => hn39 g9.2.1), rfl, rfl, rfl, rfl, rfl⟩, by omega, by omega⟩ dX13_answer_65
    · have c43 : (r38).toInt = (0 : Int) := hq_eqi.mp c43
      refine lv_bipush (v := -2) hx hb dX13_answer_22 (by decide) ?_
      have hl140 : (-2 : Int32).toInt = -2 := by decide
      have fx141 : V8 (q + 44) = some (.inl (cs 1, 2, .inl (wh))) := (fr13 (q + 44) (hq_tne (hr_44 hR) hmo (by simp)) (hq_tne (hr_44 hR) (hr_37 hR) (by simp))).trans (hc2)
      have fx142 : V8 (q + 45) = some (.inl (cs 1, 2, .inl (mi))) := (fr13 (q + 45) (hq_tne (hr_45 hR) hmo (by simp)) (hq_tne (hr_45 hR) (hr_37 hR) (by simp))).trans (hc3)
      have fx143 : V8 (q + 46) = some (.inl (cs 1, 2, .inl (ta))) := (fr13 (q + 46) (hq_tne (hr_46 hR) hmo (by simp)) (hq_tne (hr_46 hR) (hr_37 hR) (by simp))).trans (hc4)
      have hl144 : (0 : Int32).toInt = 0 := by decide
      exact hp_iret hx hb hr hlocks hZ ⟨rfl, hP, (fun x8 hne0 hne1 hne2 hne3 hne4 hne5 hne6 hne7 hne8 hne9 hne10 hne11 hne12 hne13 => fr13 x8 hne0 hne9), 0, m_tp, m_fo, m_le, m_bc, m_bg, m_bs, m_be, m_b0, m_b1, m_cm, m_hc, wh, mi, ta, ho15, fx141, fx142, fx143, Or.inr ⟨(fun g9 => by have h9 := g9.1; unfold sp_pl at h9; omega), rfl, rfl, rfl, rfl, rfl⟩, by omega, by omega⟩ dX13_answer_24

theorem y_answer (l : Launch) (D : va_G) (cs : Nat → ClassId) (B : Nat) (G : hq_G) (V : hp_V) (n : Nat) (hI : hq_I cs G V) (q : Nat) (mo : Nat) (w : sp_W) (kb : Nat) (bk : sp_B) (wt : sp_W) (rh : hm_Rh) (m_tp : Int32) (m_sz : Int32) (m_fr : Int32) (m_bh : Int32) (m_hd : Int32) (m_ft : Int32) (m_fa : Int32) (m_le : Int32) (m_fo : Int32) (m_as : Int32) (m_fd : Int32) (m_bc : Int32) (m_bg : Int32) (m_bs : Int32) (m_be : Int32) (m_b0 : Int32) (m_b1 : Int32) (m_cm : Int32) (m_hc : Int32) (k : Int32) (v : Int32) (te : Int32) (pe : Int32) (wh : Nat → Int32) (mi : Nat → Int32) (ta : Nat → Int32) (tg : Nat → Int32) (hc0 : V (mo) = some (.inr (13, hm_o q (m_tp) (m_sz) (m_fr) (m_bh) (m_hd) (m_ft) (m_fa) (m_le) (m_fo) (m_as) (m_fd) (m_bc) (m_bg) (m_bs) (m_be) (m_b0) (m_b1) (m_cm) (m_hc)))) (hc1 : V (q + 20) = some (.inl (cs 0, 4000, .inl (tg)))) (hc2 : V (q + 44) = some (.inl (cs 1, 2, .inl (wh)))) (hc3 : V (q + 45) = some (.inl (cs 1, 2, .inl (mi)))) (hc4 : V (q + 46) = some (.inl (cs 1, 2, .inl (ta)))) (hp0 : hm_AR cs V q rh) (hR : hq_RT G q) (hmo : G mo = some (24, 0, 0, 0)) (hmq : mo < q) (hT2 : hk_T2 G kb q) (hBm : hm_BK rh 0 w bk) (hgd : sp_good w bk) (hgd2 : sp_good2 bk) (hoc : sp_okc w) (hok : sp_okb wt) (htp : m_tp.toInt = wt.2) (htw : ∀ k : Nat, (k : Int) < wt.2 → (tg k).toInt = wt.1 k) (hiv0 : 0 ≤ m_tp.toInt ∧ m_tp.toInt ≤ 4000) (hiv1 : 0 ≤ m_sz.toInt ∧ m_sz.toInt ≤ 4000) (hiv2 : 0 ≤ m_le.toInt ∧ m_le.toInt ≤ 276) (hiv3 : 0 ≤ m_fo.toInt ∧ m_fo.toInt ≤ 4) (hiv4 : 0 ≤ m_as.toInt ∧ m_as.toInt ≤ 4000) (hiv5 : 0 ≤ m_fd.toInt ∧ m_fd.toInt ≤ 900) (hiv6 : 0 ≤ m_cm.toInt ∧ m_cm.toInt ≤ 2) (hiv7 : 0 ≤ m_hc.toInt ∧ m_hc.toInt ≤ 1) : hp_M l yX13_answer cX13_answer 6 (some .int) ({ frames := 8, cells := 0, slots := 0, locals := 202 }) D cs B V n [.ref (mo), .int (k), .int (v), .int (te), .int (pe)] (hp_QI D cs B (fun r V' n' => n = n' ∧ hq_P cs G (fun _ => true) V V' ∧ (∀ x, x ≠ mo → x ≠ q + 21 → x ≠ q + 22 → x ≠ q + 24 → x ≠ q + 23 → x ≠ q + 25 → x ≠ q + 28 → x ≠ q + 29 → x ≠ q + 30 → x ≠ q + 37 → x ≠ q + 44 → x ≠ q + 45 → x ≠ q + 46 → (∃ t, G x = some t ∧ (hq_grp t).1 ≠ 1 ∧ (hq_grp t).1 ≠ 43 ∧ (hq_grp t).1 ≠ 44 ∧ (hq_grp t).1 ≠ 45 ∧ (hq_grp t).1 ≠ 48) → V' x = V x) ∧ (∃ m_tp1 : Int32, ∃ m_as1 : Int32, ∃ m_fo1 : Int32, ∃ m_le1 : Int32, ∃ m_bc1 : Int32, ∃ m_bg1 : Int32, ∃ m_bs1 : Int32, ∃ m_be1 : Int32, ∃ m_b01 : Int32, ∃ m_b11 : Int32, ∃ m_cm1 : Int32, ∃ m_hc1 : Int32, ∃ wh1 : Nat → Int32, ∃ mi1 : Nat → Int32, ∃ ta1 : Nat → Int32, V' (mo) = some (.inr (13, hm_o q (m_tp1) (m_sz) (m_fr) (m_bh) (m_hd) (m_ft) (m_fa) (m_le1) (m_fo1) (m_as1) (m_fd) (m_bc1) (m_bg1) (m_bs1) (m_be1) (m_b01) (m_b11) (m_cm1) (m_hc1))) ∧ V' (q + 44) = some (.inl (cs 1, 2, .inl (wh1))) ∧ V' (q + 45) = some (.inl (cs 1, 2, .inl (mi1))) ∧ V' (q + 46) = some (.inl (cs 1, 2, .inl (ta1))) ∧ ((sp_Z w bk (sp_tw wt) k.toInt v.toInt te.toInt pe.toInt ∧ m_hc1.toInt = 1 ∧ sp_hl m_cm1 wh1 mi1 ta1 (sp_TL w bk (sp_tw wt) v.toInt te.toInt pe.toInt)) ∨ (¬ sp_Z w bk (sp_tw wt) k.toInt v.toInt te.toInt pe.toInt ∧ m_hc1 = m_hc ∧ m_cm1 = m_cm ∧ wh1 = wh ∧ mi1 = mi ∧ ta1 = ta)) ∧ (m_tp1.toInt = 0) ∧ ((0 ≤ m_tp1.toInt ∧ m_tp1.toInt ≤ 4000) ∧ (0 ≤ m_le1.toInt ∧ m_le1.toInt ≤ 276) ∧ (0 ≤ m_fo1.toInt ∧ m_fo1.toInt ≤ 4) ∧ (0 ≤ m_as1.toInt ∧ m_as1.toInt ≤ 4000) ∧ (0 ≤ m_cm1.toInt ∧ m_cm1.toInt ≤ 2) ∧ (0 ≤ m_hc1.toInt ∧ m_hc1.toInt ≤ 1))))) 0 0 := by
  by_cases h9 : sp_nfv bk 3 v.toInt te.toInt pe.toInt = -1
  · exact y_answerN l D cs B G V n hI q mo w kb bk wt rh m_tp m_sz m_fr m_bh m_hd m_ft m_fa m_le m_fo m_as m_fd m_bc m_bg m_bs m_be m_b0 m_b1 m_cm m_hc k v te pe wh mi ta tg hc0 hc1 hc2 hc3 hc4 hp0 hR hmo hmq hT2 hBm hgd hgd2 hoc hok htp htw hiv0 hiv1 hiv2 hiv3 hiv4 hiv5 hiv6 hiv7 h9
  · exact y_answerC l D cs B G V n hI q mo w kb bk wt rh m_tp m_sz m_fr m_bh m_hd m_ft m_fa m_le m_fo m_as m_fd m_bc m_bg m_bs m_be m_b0 m_b1 m_cm m_hc k v te pe wh mi ta tg hc0 hc1 hc2 hc3 hc4 hp0 hR hmo hmq hT2 hBm hgd hgd2 hoc hok htp htw hiv0 hiv1 hiv2 hiv3 hiv4 hiv5 hiv6 hiv7 h9

set_option maxHeartbeats 4000000 in
set_option maxRecDepth 100000 in
theorem y_answerN (l : Launch) (D : va_G) (cs : Nat → ClassId) (B : Nat) (G : hq_G) (V : hp_V) (n : Nat) (hI : hq_I cs G V) (q : Nat) (mo : Nat) (w : sp_W) (kb : Nat) (bk : sp_B) (wt : sp_W) (rh : hm_Rh) (m_tp : Int32) (m_sz : Int32) (m_fr : Int32) (m_bh : Int32) (m_hd : Int32) (m_ft : Int32) (m_fa : Int32) (m_le : Int32) (m_fo : Int32) (m_as : Int32) (m_fd : Int32) (m_bc : Int32) (m_bg : Int32) (m_bs : Int32) (m_be : Int32) (m_b0 : Int32) (m_b1 : Int32) (m_cm : Int32) (m_hc : Int32) (k : Int32) (v : Int32) (te : Int32) (pe : Int32) (wh : Nat → Int32) (mi : Nat → Int32) (ta : Nat → Int32) (tg : Nat → Int32) (hc0 : V (mo) = some (.inr (13, hm_o q (m_tp) (m_sz) (m_fr) (m_bh) (m_hd) (m_ft) (m_fa) (m_le) (m_fo) (m_as) (m_fd) (m_bc) (m_bg) (m_bs) (m_be) (m_b0) (m_b1) (m_cm) (m_hc)))) (hc1 : V (q + 20) = some (.inl (cs 0, 4000, .inl (tg)))) (hc2 : V (q + 44) = some (.inl (cs 1, 2, .inl (wh)))) (hc3 : V (q + 45) = some (.inl (cs 1, 2, .inl (mi)))) (hc4 : V (q + 46) = some (.inl (cs 1, 2, .inl (ta)))) (hp0 : hm_AR cs V q rh) (hR : hq_RT G q) (hmo : G mo = some (24, 0, 0, 0)) (hmq : mo < q) (hT2 : hk_T2 G kb q) (hBm : hm_BK rh 0 w bk) (hgd : sp_good w bk) (hgd2 : sp_good2 bk) (hoc : sp_okc w) (hok : sp_okb wt) (htp : m_tp.toInt = wt.2) (htw : ∀ k : Nat, (k : Int) < wt.2 → (tg k).toInt = wt.1 k) (hiv0 : 0 ≤ m_tp.toInt ∧ m_tp.toInt ≤ 4000) (hiv1 : 0 ≤ m_sz.toInt ∧ m_sz.toInt ≤ 4000) (hiv2 : 0 ≤ m_le.toInt ∧ m_le.toInt ≤ 276) (hiv3 : 0 ≤ m_fo.toInt ∧ m_fo.toInt ≤ 4) (hiv4 : 0 ≤ m_as.toInt ∧ m_as.toInt ≤ 4000) (hiv5 : 0 ≤ m_fd.toInt ∧ m_fd.toInt ≤ 900) (hiv6 : 0 ≤ m_cm.toInt ∧ m_cm.toInt ≤ 2) (hiv7 : 0 ≤ m_hc.toInt ∧ m_hc.toInt ≤ 1) (hn39 : sp_nfv bk 3 v.toInt te.toInt pe.toInt = -1) : hp_M l yX13_answer cX13_answer 6 (some .int) ({ frames := 8, cells := 0, slots := 0, locals := 202 }) D cs B V n [.ref (mo), .int (k), .int (v), .int (te), .int (pe)] (hp_QI D cs B (fun r V' n' => n = n' ∧ hq_P cs G (fun _ => true) V V' ∧ (∀ x, x ≠ mo → x ≠ q + 21 → x ≠ q + 22 → x ≠ q + 24 → x ≠ q + 23 → x ≠ q + 25 → x ≠ q + 28 → x ≠ q + 29 → x ≠ q + 30 → x ≠ q + 37 → x ≠ q + 44 → x ≠ q + 45 → x ≠ q + 46 → (∃ t, G x = some t ∧ (hq_grp t).1 ≠ 1 ∧ (hq_grp t).1 ≠ 43 ∧ (hq_grp t).1 ≠ 44 ∧ (hq_grp t).1 ≠ 45 ∧ (hq_grp t).1 ≠ 48) → V' x = V x) ∧ (∃ m_tp1 : Int32, ∃ m_as1 : Int32, ∃ m_fo1 : Int32, ∃ m_le1 : Int32, ∃ m_bc1 : Int32, ∃ m_bg1 : Int32, ∃ m_bs1 : Int32, ∃ m_be1 : Int32, ∃ m_b01 : Int32, ∃ m_b11 : Int32, ∃ m_cm1 : Int32, ∃ m_hc1 : Int32, ∃ wh1 : Nat → Int32, ∃ mi1 : Nat → Int32, ∃ ta1 : Nat → Int32, V' (mo) = some (.inr (13, hm_o q (m_tp1) (m_sz) (m_fr) (m_bh) (m_hd) (m_ft) (m_fa) (m_le1) (m_fo1) (m_as1) (m_fd) (m_bc1) (m_bg1) (m_bs1) (m_be1) (m_b01) (m_b11) (m_cm1) (m_hc1))) ∧ V' (q + 44) = some (.inl (cs 1, 2, .inl (wh1))) ∧ V' (q + 45) = some (.inl (cs 1, 2, .inl (mi1))) ∧ V' (q + 46) = some (.inl (cs 1, 2, .inl (ta1))) ∧ ((sp_Z w bk (sp_tw wt) k.toInt v.toInt te.toInt pe.toInt ∧ m_hc1.toInt = 1 ∧ sp_hl m_cm1 wh1 mi1 ta1 (sp_TL w bk (sp_tw wt) v.toInt te.toInt pe.toInt)) ∨ (¬ sp_Z w bk (sp_tw wt) k.toInt v.toInt te.toInt pe.toInt ∧ m_hc1 = m_hc ∧ m_cm1 = m_cm ∧ wh1 = wh ∧ mi1 = mi ∧ ta1 = ta)) ∧ (m_tp1.toInt = 0) ∧ ((0 ≤ m_tp1.toInt ∧ m_tp1.toInt ≤ 4000) ∧ (0 ≤ m_le1.toInt ∧ m_le1.toInt ≤ 276) ∧ (0 ≤ m_fo1.toInt ∧ m_fo1.toInt ≤ 4) ∧ (0 ≤ m_as1.toInt ∧ m_as1.toInt ≤ 4000) ∧ (0 ≤ m_cm1.toInt ∧ m_cm1.toInt ≤ 2) ∧ (0 ≤ m_hc1.toInt ∧ m_hc1.toInt ≤ 1))))) 0 0 := by
  refine hp_walk (R0 := RX13) (by decide) rfl ?_ (Nat.le_of_ble_eq_true rfl)
  intro p e s m below meth c ls hx hb hr hts hown hlocks hin hml hZ hl
  have hP : hq_P cs G (fun _ => true) V V := hq_P.rf hI
  have hl : lv_has ls 6 [(0, .ref (mo)), (1, .int (k)), (2, .int (v)), (3, .int (te)), (4, .int (pe))] := hl
  have hb_m_tp := hq_rng m_tp
  have hb_m_sz := hq_rng m_sz
  have hb_m_fr := hq_rng m_fr
  have hb_m_bh := hq_rng m_bh
  have hb_m_hd := hq_rng m_hd
  have hb_m_ft := hq_rng m_ft
  have hb_m_fa := hq_rng m_fa
  have hb_m_le := hq_rng m_le
  have hb_m_fo := hq_rng m_fo
  have hb_m_as := hq_rng m_as
  have hb_m_fd := hq_rng m_fd
  have hb_m_bc := hq_rng m_bc
  have hb_m_bg := hq_rng m_bg
  have hb_m_bs := hq_rng m_bs
  have hb_m_be := hq_rng m_be
  have hb_m_b0 := hq_rng m_b0
  have hb_m_b1 := hq_rng m_b1
  have hb_m_cm := hq_rng m_cm
  have hb_m_hc := hq_rng m_hc
  have hb_k := hq_rng k
  have hb_v := hq_rng v
  have hb_te := hq_rng te
  have hb_pe := hq_rng pe
  have hH0 : hm_H rh rh := hm_H.rf
  have hf1 := hq_rg hI (hr_44 hR) hc2
  have hf2 := hq_rg hI (hr_45 hR) hc3
  have hf3 := hq_rg hI (hr_46 hR) hc4
  obtain ⟨-, -, -, t2d⟩ := id hT2
  have hlv9 := hBm.2.2.2.1.1
  have hll9 := hBm.2.2.2.2.2.1
  have hvl9 := hBm.2.2.2.2.1.1
  have hb19 := hBm.2.1
  have hok1 := hok.1
  refine lv_aload_n hx hb dX13_answer_0 rfl (lv_at hl 0 rfl) ?_
  obtain ⟨hN6, g5, eV4⟩ := hq_o20 hP.1 (hr_37 hR)
  refine hp_callv (hp_runV (As := []) (rest := []) hx hb hml hown hts (y_ask l D cs B G V n hP.1 (q) (mo) (wt) (m_tp) (m_sz) (m_fr) (m_bh) (m_hd) (m_ft) (m_fa) (m_le) (m_fo) (m_as) (m_fd) (m_bc) (m_bg) (m_bs) (m_be) (m_b0) (m_b1) (m_cm) (m_hc) (tg) (g5)  hc0 hc1 eV4  hR hmo hmq hok (by omega) htw) hZ hc0 cv_X13_392 rfl rfl ⟨Nat.le_of_ble_eq_true rfl, Nat.le_of_ble_eq_true rfl⟩ rfl hl.1 rfl (Nat.le_of_ble_eq_true rfl) dX13_answer_1 ⟨(Nat.le_of_ble_eq_true rfl), (Nat.le_of_ble_eq_true rfl)⟩) hZ (fun V8 n9 _ _ hw10 hZ => ?_)
  obtain ⟨rfl, hq12, fr13, u14, ho15, ho16, hp17⟩ := hw10
  have hP := hP.trans hq12 (fun _ h => Bool.noConfusion h)
  have hf18 := hq_rg20 hP.1 (hr_37 hR) ho16
  have hask := hp17
  have ha1 := hask.1
  refine lv_iload_n hx hb dX13_answer_4 rfl (lv_at hl 1 rfl) ?_
  refine hp_calli (hp_runS (As := [.int (k)]) (rest := []) hx hb hml hown hts (y_isLn l D cs B G V8 n hP.1 (k)    ) hZ cv_X13_456 rfl rfl ⟨Nat.le_of_ble_eq_true rfl, Nat.le_of_ble_eq_true rfl⟩ rfl hl.1 rfl (Nat.le_of_ble_eq_true rfl) dX13_answer_5 ⟨(Nat.le_of_ble_eq_true rfl), (Nat.le_of_ble_eq_true rfl)⟩) hZ (fun r22 V19 n20 _ _ hw21 hZ => ?_)
  obtain ⟨rfl, rfl, hp25⟩ := hw21
  have b26 := hq_rng r22
  refine lv_if_eq (tgt := 22) hx hb dX13_answer_8 (by decide) (fun c27 => ?_) (fun c27 => ?_)
  · have c27 : (r22).toInt = (0 : Int) := hq_eqi.mp c27
    refine lv_bipush (v := -2) hx hb dX13_answer_22 (by decide) ?_
    have hl28 : (-2 : Int32).toInt = -2 := by decide
    have fx29 : V8 (q + 44) = some (.inl (cs 1, 2, .inl (wh))) := (fr13 (q + 44) (hq_tne (hr_44 hR) hmo (by simp)) (hq_tne (hr_44 hR) (hr_37 hR) (by simp))).trans (hc2)
    have fx30 : V8 (q + 45) = some (.inl (cs 1, 2, .inl (mi))) := (fr13 (q + 45) (hq_tne (hr_45 hR) hmo (by simp)) (hq_tne (hr_45 hR) (hr_37 hR) (by simp))).trans (hc3)
    have fx31 : V8 (q + 46) = some (.inl (cs 1, 2, .inl (ta))) := (fr13 (q + 46) (hq_tne (hr_46 hR) hmo (by simp)) (hq_tne (hr_46 hR) (hr_37 hR) (by simp))).trans (hc4)
    have hl32 : (0 : Int32).toInt = 0 := by decide
    exact hp_iret hx hb hr hlocks hZ ⟨rfl, hP, (fun x8 hne0 hne1 hne2 hne3 hne4 hne5 hne6 hne7 hne8 hne9 hne10 hne11 hne12 hne13 => fr13 x8 hne0 hne9), 0, m_tp, m_fo, m_le, m_bc, m_bg, m_bs, m_be, m_b0, m_b1, m_cm, m_hc, wh, mi, ta, ho15, fx29, fx30, fx31, Or.inr ⟨(fun g9 => by have h9 := g9.1; unfold sp_pl at h9; omega), rfl, rfl, rfl, rfl, rfl⟩, by omega, by omega⟩ dX13_answer_24
  · have c27 : ¬ (r22).toInt = (0 : Int) := fun h9 => c27 (hq_eqi.mpr h9)
    have hlr9 : 0 ≤ k.toInt ∧ k.toInt < 8 := by omega
    refine lv_aload_n hx hb dX13_answer_11 rfl (lv_at hl 0 rfl) ?_
    refine lv_iload_n hx hb dX13_answer_12 rfl (lv_at hl 2 rfl) ?_
    refine lv_iload_n hx hb dX13_answer_13 rfl (lv_at hl 3 rfl) ?_
    refine lv_iload hx hb dX13_answer_14 (lv_at hl 4 rfl) ?_
    have hl33 : (0 : Int32).toInt = 0 := by decide
    have pk34 := hp0.keep (fun x7 (hx7 : q ≤ x7 ∧ x7 < q + 19) => fr13 x7 (by omega) (by omega))
    refine hp_calli (hp_runV (As := [.int (v), .int (te), .int (pe)]) (rest := []) hx hb hml hown hts (y_isPl l D cs B G V8 n hP.1 (q) (mo) (rh) (0) (m_sz) (m_fr) (m_bh) (m_hd) (m_ft) (m_fa) (m_le) (m_fo) (m_tp) (m_fd) (m_bc) (m_bg) (m_bs) (m_be) (m_b0) (m_b1) (m_cm) (m_hc) (v) (te) (pe)  ho15 pk34 hR hmo) hZ ho15 cv_X13_380 rfl rfl ⟨Nat.le_of_ble_eq_true rfl, Nat.le_of_ble_eq_true rfl⟩ rfl hl.1 rfl (Nat.le_of_ble_eq_true rfl) dX13_answer_16 ⟨(Nat.le_of_ble_eq_true rfl), (Nat.le_of_ble_eq_true rfl)⟩) hZ (fun r38 V35 n36 _ _ hw37 hZ => ?_)
    obtain ⟨rfl, rfl, hp41⟩ := hw37
    have b42 := hq_rng r38
    refine lv_if_ne (tgt := 25) hx hb dX13_answer_19 (by decide) (fun c43 => ?_) (fun c43 => ?_)
    · have c43 : ¬ (r38).toInt = (0 : Int) := fun h9 => c43 (hq_eqi.mpr h9)
      have hpl9 : 0 ≤ v.toInt ∧ v.toInt < (rh 1 0).toInt ∧ 0 ≤ te.toInt ∧ te.toInt < 5 ∧ 0 ≤ pe.toInt ∧ pe.toInt < 6 := by omega
      have hvv : (v.toNatClampNeg : Int) = v.toInt := (hq_nn (by omega)).1.symm
      obtain ⟨t9, ht9⟩ : ∃ t, bk.2.1[v.toNatClampNeg]? = some t := ⟨_, List.getElem?_eq_getElem (by omega)⟩
      obtain ⟨c9, hc90⟩ : ∃ t, bk.2.2.1[v.toNatClampNeg]? = some t := ⟨_, List.getElem?_eq_getElem (by omega)⟩
      have hcd : sp_c9 bk v.toInt = c9 := sp_getD hc90
      have hnd : sp_nmv w bk v.toInt = (sp_nm w t9) := congrArg (sp_nm w) (sp_getD ht9)
      have hc9 : (rh 9 (v).toNatClampNeg).toInt = c9 := by have h9 := hBm.2.2.2.2.1.2 _ _ hc90; rw [show 30 * 0 + v.toNatClampNeg = v.toNatClampNeg by omega] at h9; exact h9
      have hn3 : (sp_nf 3 v.toInt c9 te.toInt pe.toInt bk.2.2.2 0) = -1 := by have h9 := hn39; unfold sp_nfv at h9; rw [hcd] at h9; exact h9
      refine lv_aload_n hx hb dX13_answer_25 rfl (lv_at hl 0 rfl) ?_
      refine lv_iload_n hx hb dX13_answer_26 rfl (lv_at hl 1 rfl) ?_
      refine lv_iload_n hx hb dX13_answer_27 rfl (lv_at hl 2 rfl) ?_
      refine lv_iload_n hx hb dX13_answer_28 rfl (lv_at hl 3 rfl) ?_
      refine lv_iload hx hb dX13_answer_29 (lv_at hl 4 rfl) ?_
      refine hp_calli (hp_runS (As := [.int (v), .int (te), .int (pe)]) (rest := [.int (k), .ref (mo)]) hx hb hml hown hts (y_plOf l D cs B G V8 n hP.1 (v) (te) (pe)    ) hZ cv_X13_459 rfl rfl ⟨Nat.le_of_ble_eq_true rfl, Nat.le_of_ble_eq_true rfl⟩ rfl hl.1 rfl (Nat.le_of_ble_eq_true rfl) dX13_answer_31 ⟨(Nat.le_of_ble_eq_true rfl), (Nat.le_of_ble_eq_true rfl)⟩) hZ (fun r47 V44 n45 _ _ hw46 hZ => ?_)
      obtain ⟨rfl, rfl⟩ := hw46
      have b50 := hq_rng r47
      have hl57 : (0 : Int32).toInt = 0 := by decide
      refine hp_callv (hp_runV (As := [.int (k), .int (r47)]) (rest := []) hx hb hml hown hts (t_X13_remember l D cs B G  V8 n hP.1 q hR (mo) hmo (k) (r47) ho15  (by omega) (by omega) (by omega) (by omega) (by omega) (by omega) (by omega) (by omega) (by omega) (by omega)) hZ ho15 cv_X13_462 rfl rfl ⟨Nat.le_of_ble_eq_true rfl, Nat.le_of_ble_eq_true rfl⟩ rfl hl.1 rfl (Nat.le_of_ble_eq_true rfl) dX13_answer_34 ⟨(Nat.le_of_ble_eq_true rfl), (Nat.le_of_ble_eq_true rfl)⟩) hZ (fun V51 n52 _ _ hw53 hZ => ?_)
      obtain ⟨rfl, hq55, ho58⟩ := hw53
      have hP := hP.trans hq55 (fun _ h => Bool.noConfusion h)
      refine lv_aload_n hx hb dX13_answer_37 rfl (lv_at hl 0 rfl) ?_
      refine lv_iload_n hx hb dX13_answer_38 rfl (lv_at hl 2 rfl) ?_
      refine lv_iload_n hx hb dX13_answer_39 rfl (lv_at hl 3 rfl) ?_
      refine lv_iload hx hb dX13_answer_40 (lv_at hl 4 rfl) ?_
      obtain ⟨hN61, g60, eV59⟩ := hq_o20 hP.1 (hr_21 hR)
      obtain ⟨hN65, g64, eV63⟩ := hq_o20 hP.1 (hr_22 hR)
      obtain ⟨hN69, g68, eV67⟩ := hq_o20 hP.1 (hr_24 hR)
      obtain ⟨hN73, g72, eV71⟩ := hq_o22 hP.1 (hr_23 hR)
      obtain ⟨hN77, g76, eV75⟩ := hq_o20 hP.1 (hr_25 hR)
      obtain ⟨hN81, g80, eV79, hf82⟩ := hq_o21 hP.1 (hr_28 hR)
      obtain ⟨hN85, g84, eV83, hf86⟩ := hq_o21 hP.1 (hr_29 hR)
      obtain ⟨hN89, g88, eV87, hf90⟩ := hq_o21 hP.1 (hr_30 hR)
      have hl91 : (0 : Int32).toInt = 0 := by decide
      have pk92 := pk34.keep (fun x7 (hx7 : q ≤ x7 ∧ x7 < q + 19) => hT2.fr hq55 (fun g hg => by unfold hk_gr at hg; simp; omega) x7 (by unfold hk_In; omega))
      refine hp_callv (hp_runV (As := [.int (v), .int (te), .int (pe)]) (rest := []) hx hb hml hown hts (y_allN l D cs B G V51 n hP.1 (q) (mo) (w) (bk) (t9) (rh) (0) (m_sz) (m_fr) (m_bh) (m_hd) (m_ft) (m_fa) (m_le) (m_fo) (m_tp) (m_fd) (m_bc) (m_bg) (m_bs) (m_be) (m_b0) (m_b1) (m_cm) (m_hc) (c9) (v) (te) (pe) (g60) (g64) (g68) (g72) (g76) (g80) (g84) (g88)  ho58 eV59 eV63 eV67 eV71 eV75 eV79 eV83 eV87 pk92 hR hmo hmq hBm hgd hgd2 hoc ht9 (by omega) hc9 (by omega) hn3) hZ ho58 cv_X13_384 rfl rfl ⟨Nat.le_of_ble_eq_true rfl, Nat.le_of_ble_eq_true rfl⟩ rfl hl.1 rfl (Nat.le_of_ble_eq_true rfl) dX13_answer_42 ⟨(Nat.le_of_ble_eq_true rfl), (Nat.le_of_ble_eq_true rfl)⟩) hZ (fun V93 n94 _ _ hw95 hZ => ?_)
      obtain ⟨rfl, hq97, fr98, z99, z100, u101, u102, u103, u104, u105, u106, u107, u108, u109, ho110, ho111, ho112, ho113, ho114, ho115, ho116, ho117, ho118, hp119, hp120, hp121⟩ := hw95
      have b122 := hq_rng z99
      have b123 := hq_rng z100
      have hP := hP.trans hq97 (fun _ h => Bool.noConfusion h)
      have hf124 := hq_rg20 hP.1 (hr_21 hR) ho111
      have hf125 := hq_rg20 hP.1 (hr_22 hR) ho112
      have hf126 := hq_rg20 hP.1 (hr_24 hR) ho113
      have hf127 := hq_rg20 hP.1 (hr_25 hR) ho115
      have hf128 := hq_rg hP.1 (hr_28 hR) ho116
      have hf129 := hq_rg hP.1 (hr_29 hR) ho117
      have hf130 := hq_rg hP.1 (hr_30 hR) ho118
      have hFO := hp119
      have hFM9 := hp120
      have b131 := hp121
      have hFO1 := hFO.1
      have hFV : sp_FMv w bk v.toInt te.toInt pe.toInt u109 := by unfold sp_FMv sp_nfv; rw [hcd, hnd]; exact hFM9
      refine lv_aload_n hx hb dX13_answer_45 rfl (lv_at hl 0 rfl) ?_
      have fx132 : V93 (q + 37) = some (.inl (cs 0, 4000, .inl (u14))) := (fr98 (q + 37) (hq_tne (hr_37 hR) hmo (by simp)) (hq_tne (hr_37 hR) (hr_21 hR) (by simp)) (hq_tne (hr_37 hR) (hr_22 hR) (by simp)) (hq_tne (hr_37 hR) (hr_24 hR) (by simp)) (hq_tne (hr_37 hR) (hr_23 hR) (by simp)) (hq_tne (hr_37 hR) (hr_25 hR) (by simp)) (hq_tne (hr_37 hR) (hr_28 hR) (by simp)) (hq_tne (hr_37 hR) (hr_29 hR) (by simp)) (hq_tne (hr_37 hR) (hr_30 hR) (by simp))).trans ((hq55.2 (q + 37) _ (hr_37 hR) rfl).trans (ho16))
      have hl133 : (0 : Int32).toInt = 0 := by decide
      refine hp_calli (hp_runV (As := []) (rest := []) hx hb hml hown hts (y_formAsk l D cs B G V93 n hP.1 (q) (mo) (0) (m_sz) (m_fr) (m_bh) (m_hd) (m_ft) (m_fa) (z99) (z100) (m_tp) (m_fd) (m_bc) (m_bg) (m_bs) (m_be) (m_b0) (m_b1) (m_cm) (m_hc) (u106) (u105) (u14) (u109) ((sp_tw wt))  ho110 ho116 ho115 fx132  hR hmo hFO (by omega) hask (by omega)) hZ ho110 cv_X13_398 rfl rfl ⟨Nat.le_of_ble_eq_true rfl, Nat.le_of_ble_eq_true rfl⟩ rfl hl.1 rfl (Nat.le_of_ble_eq_true rfl) dX13_answer_46 ⟨(Nat.le_of_ble_eq_true rfl), (Nat.le_of_ble_eq_true rfl)⟩) hZ (fun r137 V134 n135 _ _ hw136 hZ => ?_)
      obtain ⟨rfl, rfl, hp140⟩ := hw136
      have b141 := hq_rng r137
      have hfd := hp140
      refine lv_istore (lv' := [(5, .int (r137)), (0, .ref (mo)), (1, .int (k)), (2, .int (v)), (3, .int (te)), (4, .int (pe))]) hx hb dX13_answer_49 hl (by decide) rfl (fun ls hl => ?_)
      refine lv_iload hx hb dX13_answer_51 (lv_at hl 0 rfl) ?_
      refine lv_iconst (v := -1) hx hb dX13_answer_53 (by decide) ?_
      refine lv_icmp_eq (tgt := 66) hx hb dX13_answer_54 (by decide) (fun c142 => ?_) (fun c142 => ?_)
      · have c142 : (r137).toInt = (-1 : Int) := hq_eqi.mp c142
        have hnm9 : ¬ sp_tw wt ∈ u109 := by rcases hfd with g9 | g9; (· exact g9.2); (· omega)
        refine lv_aload_n hx hb dX13_answer_66 rfl (lv_at hl 1 rfl) ?_
        refine hp_get (v := .int (z100)) hx hb hts hown hZ ho110 fl_X13_344 rfl dX13_answer_67 ?_
        refine lv_if_eq (tgt := 86) hx hb dX13_answer_70 (by decide) (fun c143 => ?_) (fun c143 => ?_)
        · have c143 : (z100).toInt = (0 : Int) := hq_eqi.mp c143
          refine lv_bipush (v := -5) hx hb dX13_answer_86 (by decide) ?_
          have hl144 : (-5 : Int32).toInt = -5 := by decide
          have fx145 : V93 (q + 44) = some (.inl (cs 1, 2, .inl (wh))) := (fr98 (q + 44) (hq_tne (hr_44 hR) hmo (by simp)) (hq_tne (hr_44 hR) (hr_21 hR) (by simp)) (hq_tne (hr_44 hR) (hr_22 hR) (by simp)) (hq_tne (hr_44 hR) (hr_24 hR) (by simp)) (hq_tne (hr_44 hR) (hr_23 hR) (by simp)) (hq_tne (hr_44 hR) (hr_25 hR) (by simp)) (hq_tne (hr_44 hR) (hr_28 hR) (by simp)) (hq_tne (hr_44 hR) (hr_29 hR) (by simp)) (hq_tne (hr_44 hR) (hr_30 hR) (by simp))).trans ((hq55.2 (q + 44) _ (hr_44 hR) rfl).trans ((fr13 (q + 44) (hq_tne (hr_44 hR) hmo (by simp)) (hq_tne (hr_44 hR) (hr_37 hR) (by simp))).trans (hc2)))
          have fx146 : V93 (q + 45) = some (.inl (cs 1, 2, .inl (mi))) := (fr98 (q + 45) (hq_tne (hr_45 hR) hmo (by simp)) (hq_tne (hr_45 hR) (hr_21 hR) (by simp)) (hq_tne (hr_45 hR) (hr_22 hR) (by simp)) (hq_tne (hr_45 hR) (hr_24 hR) (by simp)) (hq_tne (hr_45 hR) (hr_23 hR) (by simp)) (hq_tne (hr_45 hR) (hr_25 hR) (by simp)) (hq_tne (hr_45 hR) (hr_28 hR) (by simp)) (hq_tne (hr_45 hR) (hr_29 hR) (by simp)) (hq_tne (hr_45 hR) (hr_30 hR) (by simp))).trans ((hq55.2 (q + 45) _ (hr_45 hR) rfl).trans ((fr13 (q + 45) (hq_tne (hr_45 hR) hmo (by simp)) (hq_tne (hr_45 hR) (hr_37 hR) (by simp))).trans (hc3)))
          have fx147 : V93 (q + 46) = some (.inl (cs 1, 2, .inl (ta))) := (fr98 (q + 46) (hq_tne (hr_46 hR) hmo (by simp)) (hq_tne (hr_46 hR) (hr_21 hR) (by simp)) (hq_tne (hr_46 hR) (hr_22 hR) (by simp)) (hq_tne (hr_46 hR) (hr_24 hR) (by simp)) (hq_tne (hr_46 hR) (hr_23 hR) (by simp)) (hq_tne (hr_46 hR) (hr_25 hR) (by simp)) (hq_tne (hr_46 hR) (hr_28 hR) (by simp)) (hq_tne (hr_46 hR) (hr_29 hR) (by simp)) (hq_tne (hr_46 hR) (hr_30 hR) (by simp))).trans ((hq55.2 (q + 46) _ (hr_46 hR) rfl).trans ((fr13 (q + 46) (hq_tne (hr_46 hR) hmo (by simp)) (hq_tne (hr_46 hR) (hr_37 hR) (by simp))).trans (hc4)))
          have hl148 : (0 : Int32).toInt = 0 := by decide
          exact hp_iret hx hb hr hlocks hZ ⟨rfl, hP, (fun x8 hne0 hne1 hne2 hne3 hne4 hne5 hne6 hne7 hne8 hne9 hne10 hne11 hne12 hne13 => (fr98 x8 hne0 hne1 hne2 hne3 hne4 hne5 hne6 hne7 hne8).trans ((hx_fg (x := x8) hq55 (by obtain ⟨t9, h91, h92⟩ := hne13; exact ⟨t9, h91, by simp_all⟩)).trans (fr13 x8 hne0 hne9))), 0, m_tp, z100, z99, m_bc, m_bg, m_bs, m_be, m_b0, m_b1, m_cm, m_hc, wh, mi, ta, ho110, fx145, fx146, fx147, Or.inr ⟨(sp_Z.no hFV (Or.inl (List.eq_nil_of_length_eq_zero (by omega)))), rfl, rfl, rfl, rfl, rfl⟩, by omega, by omega⟩ dX13_answer_88
        · have c143 : ¬ (z100).toInt = (0 : Int) := fun h9 => c143 (hq_eqi.mpr h9)
          refine lv_aload_n hx hb dX13_answer_73 rfl (lv_at hl 1 rfl) ?_
          refine lv_iconst (v := 3) hx hb dX13_answer_74 (by decide) ?_
          refine lv_iload_n hx hb dX13_answer_75 rfl (lv_at hl 3 rfl) ?_
          refine lv_iload_n hx hb dX13_answer_76 rfl (lv_at hl 4 rfl) ?_
          refine lv_iload hx hb dX13_answer_77 (lv_at hl 5 rfl) ?_
          have hl149 : (0 : Int32).toInt = 0 := by decide
          have hl150 : (3 : Int32).toInt = 3 := by decide
          have pk151 := pk92.keep (fun x7 (hx7 : q ≤ x7 ∧ x7 < q + 19) => fr98 x7 (by omega) (by omega) (by omega) (by omega) (by omega) (by omega) (by omega) (by omega) (by omega))
          refine hp_calli (hp_runV (As := [.int (3), .int (v), .int (te), .int (pe)]) (rest := []) hx hb hml hown hts (y_fo l D cs B G V93 n hP.1 (q) (mo) (w) (bk) (c9) (rh) (0) (m_sz) (m_fr) (m_bh) (m_hd) (m_ft) (m_fa) (z99) (z100) (m_tp) (m_fd) (m_bc) (m_bg) (m_bs) (m_be) (m_b0) (m_b1) (m_cm) (m_hc) (3) (v) (te) (pe)  ho110 pk151 hR hmo hBm hgd2 (by decide) (by omega) hc9) hZ ho110 cv_X13_347 rfl rfl ⟨Nat.le_of_ble_eq_true rfl, Nat.le_of_ble_eq_true rfl⟩ rfl hl.1 rfl (Nat.le_of_ble_eq_true rfl) dX13_answer_79 ⟨(Nat.le_of_ble_eq_true rfl), (Nat.le_of_ble_eq_true rfl)⟩) hZ (fun r155 V152 n153 _ _ hw154 hZ => ?_)
          obtain ⟨rfl, rfl, hp158⟩ := hw154
          have b159 := hq_rng r155
          have hf3 := hp158
          rw [show (3 : Int32).toInt = 3 by decide] at hf3
          refine lv_iconst (v := -1) hx hb dX13_answer_82 (by decide) ?_
          refine lv_icmp_eq (tgt := 89) hx hb dX13_answer_83 (by decide) (fun c160 => ?_) (fun c160 => ?_)
          · have c160 : (r155).toInt = (-1 : Int) := hq_eqi.mp c160
            refine lv_aload_n hx hb dX13_answer_89 rfl (lv_at hl 1 rfl) ?_
            refine lv_iload_n hx hb dX13_answer_90 rfl (lv_at hl 3 rfl) ?_
            refine lv_iload_n hx hb dX13_answer_91 rfl (lv_at hl 4 rfl) ?_
            refine lv_iload hx hb dX13_answer_92 (lv_at hl 5 rfl) ?_
            have hqq : ((sp_nf 4 v.toInt c9 te.toInt pe.toInt bk.2.2.2 0) = -1 ∧ sp_qv bk v.toInt te.toInt pe.toInt = 0) ∨ (¬ (sp_nf 4 v.toInt c9 te.toInt pe.toInt bk.2.2.2 0) = -1 ∧ sp_qv bk v.toInt te.toInt pe.toInt = 1) := by have h9 := sp_qv_is bk v.toInt te.toInt pe.toInt; unfold sp_nfv at h9; rw [hcd] at h9; exact h9
            have hTR : sp_TR w bk (sp_tw wt) v.toInt te.toInt pe.toInt = (sp_tr (sp_M w bk.2.2.2 (sp_U w bk (sp_nm w t9)) (sp_tw wt)) ((1000, 9, 0, 0, 0, 0) : sp_Y) (sp_wx bk.2.2.2 (sp_qv bk v.toInt te.toInt pe.toInt) (sp_nf 0 v.toInt c9 te.toInt pe.toInt bk.2.2.2 0) (sp_nf 1 v.toInt c9 te.toInt pe.toInt bk.2.2.2 0))) := by unfold sp_TR sp_nfv; rw [hcd, hnd]
            have hTL : (sp_TL w bk (sp_tw wt) v.toInt te.toInt pe.toInt) = sp_tel (sp_nf 4 v.toInt c9 te.toInt pe.toInt bk.2.2.2 0) (sp_nf 0 v.toInt c9 te.toInt pe.toInt bk.2.2.2 0) (sp_nf 1 v.toInt c9 te.toInt pe.toInt bk.2.2.2 0) (sp_TR w bk (sp_tw wt) v.toInt te.toInt pe.toInt).2.2.1 (sp_TR w bk (sp_tw wt) v.toInt te.toInt pe.toInt).2.2.2.1 (sp_TR w bk (sp_tw wt) v.toInt te.toInt pe.toInt).2.2.2.2.1 (sp_TR w bk (sp_tw wt) v.toInt te.toInt pe.toInt).2.2.2.2.2 := by unfold sp_TL sp_nfv; rw [hcd]
            have hl161 : (0 : Int32).toInt = 0 := by decide
            refine hp_callv (hp_runV (As := [.int (v), .int (te), .int (pe)]) (rest := []) hx hb hml hown hts (y_explain l D cs B G V93 n hP.1 (q) (mo) (w) (bk) (t9) (rh) (0) (m_sz) (m_fr) (m_bh) (m_hd) (m_ft) (m_fa) (z99) (z100) (m_tp) (m_fd) (m_bc) (m_bg) (m_bs) (m_be) (m_b0) (m_b1) (m_cm) (m_hc) (c9) (sp_qv bk v.toInt te.toInt pe.toInt) ((sp_nf 0 v.toInt c9 te.toInt pe.toInt bk.2.2.2 0)) ((sp_nf 1 v.toInt c9 te.toInt pe.toInt bk.2.2.2 0)) (v) (te) (pe) (u101) (u102) (u103) (u104) (u14) ((sp_tw wt))  ho110 ho111 ho112 ho113 ho114 fx132 pk151 hR hmo hmq hBm hgd hgd2 hoc ht9 (by omega) hask (by omega) (by omega) hc9 rfl rfl hqq) hZ ho110 cv_X13_468 rfl rfl ⟨Nat.le_of_ble_eq_true rfl, Nat.le_of_ble_eq_true rfl⟩ rfl hl.1 rfl (Nat.le_of_ble_eq_true rfl) dX13_answer_94 ⟨(Nat.le_of_ble_eq_true rfl), (Nat.le_of_ble_eq_true rfl)⟩) hZ (fun V162 n163 _ _ hw164 hZ => ?_)
            obtain ⟨rfl, hq166, fr167, z168, z169, z170, z171, z172, z173, z174, u175, u176, u177, u178, ho179, ho180, ho181, ho182, ho183, hp184, hp185⟩ := hw164
            have b186 := hq_rng z168
            have b187 := hq_rng z169
            have b188 := hq_rng z170
            have b189 := hq_rng z171
            have b190 := hq_rng z172
            have b191 := hq_rng z173
            have b192 := hq_rng z174
            have hP := hP.trans hq166 (fun _ h => Bool.noConfusion h)
            have hf193 := hq_rg20 hP.1 (hr_21 hR) ho180
            have hf194 := hq_rg20 hP.1 (hr_22 hR) ho181
            have hf195 := hq_rg20 hP.1 (hr_24 hR) ho182
            have hYB := hp184
            have b196 := hp185
            have hcs := sp_tr_0s (M := sp_M w bk.2.2.2 (sp_U w bk (sp_nm w t9)) (sp_tw wt)) (L := sp_wx bk.2.2.2 (sp_qv bk v.toInt te.toInt pe.toInt) (sp_nf 0 v.toInt c9 te.toInt pe.toInt bk.2.2.2 0) (sp_nf 1 v.toInt c9 te.toInt pe.toInt bk.2.2.2 0)) (s := ((1000, 9, 0, 0, 0, 0) : sp_Y)) (s' := (sp_y6 1000 9 m_bs m_be m_b0 m_b1)) rfl (show (1000 : Int32).toInt = 1000 by decide) (show (9 : Int) = (9 : Int32).toInt by decide)
            rw [← hYB, ← hTR] at hcs
            refine lv_aload_n hx hb dX13_answer_97 rfl (lv_at hl 1 rfl) ?_
            refine hp_get (v := .int (z169)) hx hb hts hown hZ ho179 fl_X13_413 rfl dX13_answer_98 ?_
            refine lv_sipush (v := 1000) hx hb dX13_answer_101 (by decide) ?_
            refine lv_icmp_ne (tgt := 110) hx hb dX13_answer_104 (by decide) (fun c197 => ?_) (fun c197 => ?_)
            · have c197 : ¬ (z169).toInt = (1000 : Int) := fun h9 => c197 (hq_eqi.mpr h9)
              have hYT : sp_TR w bk (sp_tw wt) v.toInt te.toInt pe.toInt = (sp_y6 z169 z170 z171 z172 z173 z174) := by rcases hcs with g9 | g9; (· exfalso; have h9 : (z169).toInt = 1000 := g9.2; omega); (· exact g9)
              have hxn : ¬ (sp_TR w bk (sp_tw wt) v.toInt te.toInt pe.toInt).1 = 1000 := by rw [hYT]; show ¬ (z169).toInt = 1000; omega
              obtain ⟨hyk, -, -⟩ := sp_TR_len hxn
              have hq01 : 0 ≤ sp_qv bk v.toInt te.toInt pe.toInt ∧ sp_qv bk v.toInt te.toInt pe.toInt ≤ 1 := by omega
              have hrn0 : -1 ≤ sp_nfv bk 0 v.toInt te.toInt pe.toInt ∧ sp_nfv bk 0 v.toInt te.toInt pe.toInt < (bk.2.2.2.length : Int) := by have h9 := sp_nf_rg (k := 0) (v := v.toInt) (c := sp_c9 bk v.toInt) (t := te.toInt) (p := pe.toInt) bk.2.2.2 0 (by omega); show -1 ≤ sp_nf 0 v.toInt (sp_c9 bk v.toInt) te.toInt pe.toInt bk.2.2.2 0 ∧ sp_nf 0 v.toInt (sp_c9 bk v.toInt) te.toInt pe.toInt bk.2.2.2 0 < (bk.2.2.2.length : Int); rcases h9 with g9 | ⟨g8, g9, -⟩ <;> omega
              have hrn1 : -1 ≤ sp_nfv bk 1 v.toInt te.toInt pe.toInt ∧ sp_nfv bk 1 v.toInt te.toInt pe.toInt < (bk.2.2.2.length : Int) := by have h9 := sp_nf_rg (k := 1) (v := v.toInt) (c := sp_c9 bk v.toInt) (t := te.toInt) (p := pe.toInt) bk.2.2.2 0 (by omega); show -1 ≤ sp_nf 1 v.toInt (sp_c9 bk v.toInt) te.toInt pe.toInt bk.2.2.2 0 ∧ sp_nf 1 v.toInt (sp_c9 bk v.toInt) te.toInt pe.toInt bk.2.2.2 0 < (bk.2.2.2.length : Int); rcases h9 with g9 | ⟨g8, g9, -⟩ <;> omega
              have hyr := hyk.rg hq01 hrn0 hrn1
              have htl9 := sp_TL_le hxn
              rw [hTL] at htl9
              rw [hYT] at hyr htl9
              have hz198 : (sp_y6 z169 z170 z171 z172 z173 z174).1 = (z169).toInt := rfl
              have hz199 : (sp_y6 z169 z170 z171 z172 z173 z174).2.1 = (z170).toInt := rfl
              have hz200 : (sp_y6 z169 z170 z171 z172 z173 z174).2.2.1 = (z171).toInt := rfl
              have hz201 : (sp_y6 z169 z170 z171 z172 z173 z174).2.2.2.1 = (z172).toInt := rfl
              have hz202 : (sp_y6 z169 z170 z171 z172 z173 z174).2.2.2.2.1 = (z173).toInt := rfl
              have hz203 : (sp_y6 z169 z170 z171 z172 z173 z174).2.2.2.2.2 = (z174).toInt := rfl
              refine lv_aload_n hx hb dX13_answer_110 rfl (lv_at hl 1 rfl) ?_
              refine lv_iload_n hx hb dX13_answer_111 rfl (lv_at hl 3 rfl) ?_
              refine lv_iload_n hx hb dX13_answer_112 rfl (lv_at hl 4 rfl) ?_
              refine lv_iload hx hb dX13_answer_113 (lv_at hl 5 rfl) ?_
              have fx204 : V162 (q + 44) = some (.inl (cs 1, 2, .inl (wh))) := (fr167 (q + 44) (hq_tne (hr_44 hR) hmo (by simp)) (hq_tne (hr_44 hR) (hr_21 hR) (by simp)) (hq_tne (hr_44 hR) (hr_22 hR) (by simp)) (hq_tne (hr_44 hR) (hr_24 hR) (by simp)) (hq_tne (hr_44 hR) (hr_23 hR) (by simp))).trans ((fr98 (q + 44) (hq_tne (hr_44 hR) hmo (by simp)) (hq_tne (hr_44 hR) (hr_21 hR) (by simp)) (hq_tne (hr_44 hR) (hr_22 hR) (by simp)) (hq_tne (hr_44 hR) (hr_24 hR) (by simp)) (hq_tne (hr_44 hR) (hr_23 hR) (by simp)) (hq_tne (hr_44 hR) (hr_25 hR) (by simp)) (hq_tne (hr_44 hR) (hr_28 hR) (by simp)) (hq_tne (hr_44 hR) (hr_29 hR) (by simp)) (hq_tne (hr_44 hR) (hr_30 hR) (by simp))).trans ((hq55.2 (q + 44) _ (hr_44 hR) rfl).trans ((fr13 (q + 44) (hq_tne (hr_44 hR) hmo (by simp)) (hq_tne (hr_44 hR) (hr_37 hR) (by simp))).trans (hc2))))
              have fx205 : V162 (q + 45) = some (.inl (cs 1, 2, .inl (mi))) := (fr167 (q + 45) (hq_tne (hr_45 hR) hmo (by simp)) (hq_tne (hr_45 hR) (hr_21 hR) (by simp)) (hq_tne (hr_45 hR) (hr_22 hR) (by simp)) (hq_tne (hr_45 hR) (hr_24 hR) (by simp)) (hq_tne (hr_45 hR) (hr_23 hR) (by simp))).trans ((fr98 (q + 45) (hq_tne (hr_45 hR) hmo (by simp)) (hq_tne (hr_45 hR) (hr_21 hR) (by simp)) (hq_tne (hr_45 hR) (hr_22 hR) (by simp)) (hq_tne (hr_45 hR) (hr_24 hR) (by simp)) (hq_tne (hr_45 hR) (hr_23 hR) (by simp)) (hq_tne (hr_45 hR) (hr_25 hR) (by simp)) (hq_tne (hr_45 hR) (hr_28 hR) (by simp)) (hq_tne (hr_45 hR) (hr_29 hR) (by simp)) (hq_tne (hr_45 hR) (hr_30 hR) (by simp))).trans ((hq55.2 (q + 45) _ (hr_45 hR) rfl).trans ((fr13 (q + 45) (hq_tne (hr_45 hR) hmo (by simp)) (hq_tne (hr_45 hR) (hr_37 hR) (by simp))).trans (hc3))))
              have fx206 : V162 (q + 46) = some (.inl (cs 1, 2, .inl (ta))) := (fr167 (q + 46) (hq_tne (hr_46 hR) hmo (by simp)) (hq_tne (hr_46 hR) (hr_21 hR) (by simp)) (hq_tne (hr_46 hR) (hr_22 hR) (by simp)) (hq_tne (hr_46 hR) (hr_24 hR) (by simp)) (hq_tne (hr_46 hR) (hr_23 hR) (by simp))).trans ((fr98 (q + 46) (hq_tne (hr_46 hR) hmo (by simp)) (hq_tne (hr_46 hR) (hr_21 hR) (by simp)) (hq_tne (hr_46 hR) (hr_22 hR) (by simp)) (hq_tne (hr_46 hR) (hr_24 hR) (by simp)) (hq_tne (hr_46 hR) (hr_23 hR) (by simp)) (hq_tne (hr_46 hR) (hr_25 hR) (by simp)) (hq_tne (hr_46 hR) (hr_28 hR) (by simp)) (hq_tne (hr_46 hR) (hr_29 hR) (by simp)) (hq_tne (hr_46 hR) (hr_30 hR) (by simp))).trans ((hq55.2 (q + 46) _ (hr_46 hR) rfl).trans ((fr13 (q + 46) (hq_tne (hr_46 hR) hmo (by simp)) (hq_tne (hr_46 hR) (hr_37 hR) (by simp))).trans (hc4))))
              have hl207 : (0 : Int32).toInt = 0 := by decide
              have pk208 := pk151.keep (fun x7 (hx7 : q ≤ x7 ∧ x7 < q + 19) => fr167 x7 (by omega) (by omega) (by omega) (by omega) (by omega))
              refine hp_callv (hp_runV (As := [.int (v), .int (te), .int (pe)]) (rest := []) hx hb hml hown hts (y_keepC l D cs B G V162 n hP.1 (q) (mo) (w) (bk) (c9) ((sp_nf 4 v.toInt c9 te.toInt pe.toInt bk.2.2.2 0)) ((sp_nf 0 v.toInt c9 te.toInt pe.toInt bk.2.2.2 0)) ((sp_nf 1 v.toInt c9 te.toInt pe.toInt bk.2.2.2 0)) (rh) (0) (m_sz) (m_fr) (m_bh) (m_hd) (m_ft) (m_fa) (z168) (z100) (m_tp) (m_fd) (z169) (z170) (z171) (z172) (z173) (z174) (m_cm) (m_hc) (v) (te) (pe) (wh) (mi) (ta)  ho179 fx204 fx205 fx206 pk208 hR hmo hmq hBm hgd2 (by omega) hc9 rfl rfl rfl htl9 (by omega) (by omega) (by omega) (by omega)) hZ ho179 cv_X13_471 rfl rfl ⟨Nat.le_of_ble_eq_true rfl, Nat.le_of_ble_eq_true rfl⟩ rfl hl.1 rfl (Nat.le_of_ble_eq_true rfl) dX13_answer_115 ⟨(Nat.le_of_ble_eq_true rfl), (Nat.le_of_ble_eq_true rfl)⟩) hZ (fun V209 n210 _ _ hw211 hZ => ?_)
              obtain ⟨rfl, hq213, fr214, z215, u216, u217, u218, ho219, ho220, ho221, ho222, hp223⟩ := hw211
              have b224 := hq_rng z215
              have hP := hP.trans hq213 (fun _ h => Bool.noConfusion h)
              have hf225 := hq_rg hP.1 (hr_44 hR) ho220
              have hf226 := hq_rg hP.1 (hr_45 hR) ho221
              have hf227 := hq_rg hP.1 (hr_46 hR) ho222
              have hch : sp_hl z215 u216 u217 u218 (sp_TL w bk (sp_tw wt) v.toInt te.toInt pe.toInt) := by rw [hTL, hYT]; exact hp223
              have hch1 := hch.1
              have htl8 := sp_TL_le hxn
              have hhc1 : (1 : Int32).toInt = 1 := by decide
              refine lv_aload_n hx hb dX13_answer_118 rfl (lv_at hl 1 rfl) ?_
              refine lv_iload_n hx hb dX13_answer_119 rfl (lv_at hl 2 rfl) ?_
              have hl234 : (0 : Int32).toInt = 0 := by decide
              have hl235 : (1 : Int32).toInt = 1 := by decide
              refine hp_callv (hp_runV (As := [.int (k)]) (rest := []) hx hb hml hown hts (t_X13_blame l D cs B G  V209 n hP.1 q hR (mo) hmo (k) ho219  (by omega) (by omega) (by omega) (by omega) (by omega) (by omega) (by omega) (by omega) (by omega) (by omega)) hZ ho219 cv_X13_474 rfl rfl ⟨Nat.le_of_ble_eq_true rfl, Nat.le_of_ble_eq_true rfl⟩ rfl hl.1 rfl (Nat.le_of_ble_eq_true rfl) dX13_answer_120 ⟨(Nat.le_of_ble_eq_true rfl), (Nat.le_of_ble_eq_true rfl)⟩) hZ (fun V228 n229 _ _ hw230 hZ => ?_)
              obtain ⟨rfl, hq232, ho236⟩ := hw230
              have hP := hP.trans hq232 (fun _ h => Bool.noConfusion h)
              refine lv_aload_n hx hb dX13_answer_123 rfl (lv_at hl 1 rfl) ?_
              refine hp_get (v := .int (z169)) hx hb hts hown hZ ho236 fl_X13_413 rfl dX13_answer_124 ?_
              have fx237 : V228 (q + 44) = some (.inl (cs 1, 2, .inl (u216))) := (hq232.2 (q + 44) _ (hr_44 hR) rfl).trans (ho220)
              have fx238 : V228 (q + 45) = some (.inl (cs 1, 2, .inl (u217))) := (hq232.2 (q + 45) _ (hr_45 hR) rfl).trans (ho221)
              have fx239 : V228 (q + 46) = some (.inl (cs 1, 2, .inl (u218))) := (hq232.2 (q + 46) _ (hr_46 hR) rfl).trans (ho222)
              have hl240 : (0 : Int32).toInt = 0 := by decide
              have hl241 : (1 : Int32).toInt = 1 := by decide
              exact hp_iret hx hb hr hlocks hZ ⟨rfl, hP, (fun x8 hne0 hne1 hne2 hne3 hne4 hne5 hne6 hne7 hne8 hne9 hne10 hne11 hne12 hne13 => (hx_fg (x := x8) hq232 (by obtain ⟨t9, h91, h92⟩ := hne13; exact ⟨t9, h91, by simp_all⟩)).trans ((fr214 x8 hne0 hne10 hne11 hne12).trans ((fr167 x8 hne0 hne1 hne2 hne3 hne4).trans ((fr98 x8 hne0 hne1 hne2 hne3 hne4 hne5 hne6 hne7 hne8).trans ((hx_fg (x := x8) hq55 (by obtain ⟨t9, h91, h92⟩ := hne13; exact ⟨t9, h91, by simp_all⟩)).trans (fr13 x8 hne0 hne9)))))), 0, m_tp, z100, z168, z169, z170, z171, z172, z173, z174, z215, 1, u216, u217, u218, ho236, fx237, fx238, fx239, Or.inl ⟨⟨⟨by omega, by omega, by omega, by omega⟩, hn39, ⟨u109, hFV, (fun g9 => by have h9 := congrArg List.length g9; have h8 : ([] : List (List Int)).length = 0 := rfl; omega), hnm9⟩, hxn⟩, by omega, hch⟩, by omega, by omega⟩ dX13_answer_127
            · have c197 : (z169).toInt = (1000 : Int) := hq_eqi.mp c197
              have hxn : (sp_TR w bk (sp_tw wt) v.toInt te.toInt pe.toInt).1 = 1000 := by rcases hcs with g9 | g9; (· exact g9.1); (· rw [g9]; show (z169).toInt = 1000; omega)
              refine lv_bipush (v := -5) hx hb dX13_answer_107 (by decide) ?_
              have hl242 : (-5 : Int32).toInt = -5 := by decide
              have fx243 : V162 (q + 44) = some (.inl (cs 1, 2, .inl (wh))) := (fr167 (q + 44) (hq_tne (hr_44 hR) hmo (by simp)) (hq_tne (hr_44 hR) (hr_21 hR) (by simp)) (hq_tne (hr_44 hR) (hr_22 hR) (by simp)) (hq_tne (hr_44 hR) (hr_24 hR) (by simp)) (hq_tne (hr_44 hR) (hr_23 hR) (by simp))).trans ((fr98 (q + 44) (hq_tne (hr_44 hR) hmo (by simp)) (hq_tne (hr_44 hR) (hr_21 hR) (by simp)) (hq_tne (hr_44 hR) (hr_22 hR) (by simp)) (hq_tne (hr_44 hR) (hr_24 hR) (by simp)) (hq_tne (hr_44 hR) (hr_23 hR) (by simp)) (hq_tne (hr_44 hR) (hr_25 hR) (by simp)) (hq_tne (hr_44 hR) (hr_28 hR) (by simp)) (hq_tne (hr_44 hR) (hr_29 hR) (by simp)) (hq_tne (hr_44 hR) (hr_30 hR) (by simp))).trans ((hq55.2 (q + 44) _ (hr_44 hR) rfl).trans ((fr13 (q + 44) (hq_tne (hr_44 hR) hmo (by simp)) (hq_tne (hr_44 hR) (hr_37 hR) (by simp))).trans (hc2))))
              have fx244 : V162 (q + 45) = some (.inl (cs 1, 2, .inl (mi))) := (fr167 (q + 45) (hq_tne (hr_45 hR) hmo (by simp)) (hq_tne (hr_45 hR) (hr_21 hR) (by simp)) (hq_tne (hr_45 hR) (hr_22 hR) (by simp)) (hq_tne (hr_45 hR) (hr_24 hR) (by simp)) (hq_tne (hr_45 hR) (hr_23 hR) (by simp))).trans ((fr98 (q + 45) (hq_tne (hr_45 hR) hmo (by simp)) (hq_tne (hr_45 hR) (hr_21 hR) (by simp)) (hq_tne (hr_45 hR) (hr_22 hR) (by simp)) (hq_tne (hr_45 hR) (hr_24 hR) (by simp)) (hq_tne (hr_45 hR) (hr_23 hR) (by simp)) (hq_tne (hr_45 hR) (hr_25 hR) (by simp)) (hq_tne (hr_45 hR) (hr_28 hR) (by simp)) (hq_tne (hr_45 hR) (hr_29 hR) (by simp)) (hq_tne (hr_45 hR) (hr_30 hR) (by simp))).trans ((hq55.2 (q + 45) _ (hr_45 hR) rfl).trans ((fr13 (q + 45) (hq_tne (hr_45 hR) hmo (by simp)) (hq_tne (hr_45 hR) (hr_37 hR) (by simp))).trans (hc3))))
              have fx245 : V162 (q + 46) = some (.inl (cs 1, 2, .inl (ta))) := (fr167 (q + 46) (hq_tne (hr_46 hR) hmo (by simp)) (hq_tne (hr_46 hR) (hr_21 hR) (by simp)) (hq_tne (hr_46 hR) (hr_22 hR) (by simp)) (hq_tne (hr_46 hR) (hr_24 hR) (by simp)) (hq_tne (hr_46 hR) (hr_23 hR) (by simp))).trans ((fr98 (q + 46) (hq_tne (hr_46 hR) hmo (by simp)) (hq_tne (hr_46 hR) (hr_21 hR) (by simp)) (hq_tne (hr_46 hR) (hr_22 hR) (by simp)) (hq_tne (hr_46 hR) (hr_24 hR) (by simp)) (hq_tne (hr_46 hR) (hr_23 hR) (by simp)) (hq_tne (hr_46 hR) (hr_25 hR) (by simp)) (hq_tne (hr_46 hR) (hr_28 hR) (by simp)) (hq_tne (hr_46 hR) (hr_29 hR) (by simp)) (hq_tne (hr_46 hR) (hr_30 hR) (by simp))).trans ((hq55.2 (q + 46) _ (hr_46 hR) rfl).trans ((fr13 (q + 46) (hq_tne (hr_46 hR) hmo (by simp)) (hq_tne (hr_46 hR) (hr_37 hR) (by simp))).trans (hc4))))
              have hl246 : (0 : Int32).toInt = 0 := by decide
              exact hp_iret hx hb hr hlocks hZ ⟨rfl, hP, (fun x8 hne0 hne1 hne2 hne3 hne4 hne5 hne6 hne7 hne8 hne9 hne10 hne11 hne12 hne13 => (fr167 x8 hne0 hne1 hne2 hne3 hne4).trans ((fr98 x8 hne0 hne1 hne2 hne3 hne4 hne5 hne6 hne7 hne8).trans ((hx_fg (x := x8) hq55 (by obtain ⟨t9, h91, h92⟩ := hne13; exact ⟨t9, h91, by simp_all⟩)).trans (fr13 x8 hne0 hne9)))), 0, m_tp, z100, z168, z169, z170, z171, z172, z173, z174, m_cm, m_hc, wh, mi, ta, ho179, fx243, fx244, fx245, Or.inr ⟨(fun g9 => g9.2.2.2 hxn), rfl, rfl, rfl, rfl, rfl⟩, by omega, by omega⟩ dX13_answer_109
          · have c160 : ¬ (r155).toInt = (-1 : Int) := fun h9 => c160 (hq_eqi.mpr h9)
            exfalso
            omega
      · have c142 : ¬ (r137).toInt = (-1 : Int) := fun h9 => c142 (hq_eqi.mpr h9)
        have hmem : sp_tw wt ∈ u109 := by rcases hfd with g9 | g9; (· omega); (· exact g9.2.2)
        refine lv_aload_n hx hb dX13_answer_57 rfl (lv_at hl 1 rfl) ?_
        refine lv_iload_n hx hb dX13_answer_58 rfl (lv_at hl 2 rfl) ?_
        refine lv_iload hx hb dX13_answer_59 (lv_at hl 0 rfl) ?_
        have hl253 : (0 : Int32).toInt = 0 := by decide
        refine hp_callv (hp_runV (As := [.int (k), .int (r137)]) (rest := []) hx hb hml hown hts (t_X13_praise l D cs B G  V93 n hP.1 q hR (mo) hmo (k) (r137) ho110  (by omega) (by omega) (by omega) (by omega) (by omega) (by omega) (by omega) (by omega) (by omega) (by omega) (by omega) (by omega)) hZ ho110 cv_X13_465 rfl rfl ⟨Nat.le_of_ble_eq_true rfl, Nat.le_of_ble_eq_true rfl⟩ rfl hl.1 rfl (Nat.le_of_ble_eq_true rfl) dX13_answer_61 ⟨(Nat.le_of_ble_eq_true rfl), (Nat.le_of_ble_eq_true rfl)⟩) hZ (fun V247 n248 _ _ hw249 hZ => ?_)
        obtain ⟨rfl, hq251, ho254⟩ := hw249
        have hP := hP.trans hq251 (fun _ h => Bool.noConfusion h)
        refine lv_iconst (v := 0) hx hb dX13_answer_64 (by decide) ?_
        have hl255 : (0 : Int32).toInt = 0 := by decide
        have fx256 : V247 (q + 44) = some (.inl (cs 1, 2, .inl (wh))) := (hq251.2 (q + 44) _ (hr_44 hR) rfl).trans ((fr98 (q + 44) (hq_tne (hr_44 hR) hmo (by simp)) (hq_tne (hr_44 hR) (hr_21 hR) (by simp)) (hq_tne (hr_44 hR) (hr_22 hR) (by simp)) (hq_tne (hr_44 hR) (hr_24 hR) (by simp)) (hq_tne (hr_44 hR) (hr_23 hR) (by simp)) (hq_tne (hr_44 hR) (hr_25 hR) (by simp)) (hq_tne (hr_44 hR) (hr_28 hR) (by simp)) (hq_tne (hr_44 hR) (hr_29 hR) (by simp)) (hq_tne (hr_44 hR) (hr_30 hR) (by simp))).trans ((hq55.2 (q + 44) _ (hr_44 hR) rfl).trans ((fr13 (q + 44) (hq_tne (hr_44 hR) hmo (by simp)) (hq_tne (hr_44 hR) (hr_37 hR) (by simp))).trans (hc2))))
        have fx257 : V247 (q + 45) = some (.inl (cs 1, 2, .inl (mi))) := (hq251.2 (q + 45) _ (hr_45 hR) rfl).trans ((fr98 (q + 45) (hq_tne (hr_45 hR) hmo (by simp)) (hq_tne (hr_45 hR) (hr_21 hR) (by simp)) (hq_tne (hr_45 hR) (hr_22 hR) (by simp)) (hq_tne (hr_45 hR) (hr_24 hR) (by simp)) (hq_tne (hr_45 hR) (hr_23 hR) (by simp)) (hq_tne (hr_45 hR) (hr_25 hR) (by simp)) (hq_tne (hr_45 hR) (hr_28 hR) (by simp)) (hq_tne (hr_45 hR) (hr_29 hR) (by simp)) (hq_tne (hr_45 hR) (hr_30 hR) (by simp))).trans ((hq55.2 (q + 45) _ (hr_45 hR) rfl).trans ((fr13 (q + 45) (hq_tne (hr_45 hR) hmo (by simp)) (hq_tne (hr_45 hR) (hr_37 hR) (by simp))).trans (hc3))))
        have fx258 : V247 (q + 46) = some (.inl (cs 1, 2, .inl (ta))) := (hq251.2 (q + 46) _ (hr_46 hR) rfl).trans ((fr98 (q + 46) (hq_tne (hr_46 hR) hmo (by simp)) (hq_tne (hr_46 hR) (hr_21 hR) (by simp)) (hq_tne (hr_46 hR) (hr_22 hR) (by simp)) (hq_tne (hr_46 hR) (hr_24 hR) (by simp)) (hq_tne (hr_46 hR) (hr_23 hR) (by simp)) (hq_tne (hr_46 hR) (hr_25 hR) (by simp)) (hq_tne (hr_46 hR) (hr_28 hR) (by simp)) (hq_tne (hr_46 hR) (hr_29 hR) (by simp)) (hq_tne (hr_46 hR) (hr_30 hR) (by simp))).trans ((hq55.2 (q + 46) _ (hr_46 hR) rfl).trans ((fr13 (q + 46) (hq_tne (hr_46 hR) hmo (by simp)) (hq_tne (hr_46 hR) (hr_37 hR) (by simp))).trans (hc4))))
        have hl259 : (0 : Int32).toInt = 0 := by decide
        exact hp_iret hx hb hr hlocks hZ ⟨rfl, hP, (fun x8 hne0 hne1 hne2 hne3 hne4 hne5 hne6 hne7 hne8 hne9 hne10 hne11 hne12 hne13 => (hx_fg (x := x8) hq251 (by obtain ⟨t9, h91, h92⟩ := hne13; exact ⟨t9, h91, by simp_all⟩)).trans ((fr98 x8 hne0 hne1 hne2 hne3 hne4 hne5 hne6 hne7 hne8).trans ((hx_fg (x := x8) hq55 (by obtain ⟨t9, h91, h92⟩ := hne13; exact ⟨t9, h91, by simp_all⟩)).trans (fr13 x8 hne0 hne9)))), 0, m_tp, z100, z99, m_bc, m_bg, m_bs, m_be, m_b0, m_b1, m_cm, m_hc, wh, mi, ta, ho254, fx256, fx257, fx258, Or.inr ⟨(sp_Z.no hFV (Or.inr hmem)), rfl, rfl, rfl, rfl, rfl⟩, by omega, by omega⟩ dX13_answer_65
    · have c43 : (r38).toInt = (0 : Int) := hq_eqi.mp c43
      refine lv_bipush (v := -2) hx hb dX13_answer_22 (by decide) ?_
      have hl260 : (-2 : Int32).toInt = -2 := by decide
      have fx261 : V8 (q + 44) = some (.inl (cs 1, 2, .inl (wh))) := (fr13 (q + 44) (hq_tne (hr_44 hR) hmo (by simp)) (hq_tne (hr_44 hR) (hr_37 hR) (by simp))).trans (hc2)
      have fx262 : V8 (q + 45) = some (.inl (cs 1, 2, .inl (mi))) := (fr13 (q + 45) (hq_tne (hr_45 hR) hmo (by simp)) (hq_tne (hr_45 hR) (hr_37 hR) (by simp))).trans (hc3)
      have fx263 : V8 (q + 46) = some (.inl (cs 1, 2, .inl (ta))) := (fr13 (q + 46) (hq_tne (hr_46 hR) hmo (by simp)) (hq_tne (hr_46 hR) (hr_37 hR) (by simp))).trans (hc4)
      have hl264 : (0 : Int32).toInt = 0 := by decide
      exact hp_iret hx hb hr hlocks hZ ⟨rfl, hP, (fun x8 hne0 hne1 hne2 hne3 hne4 hne5 hne6 hne7 hne8 hne9 hne10 hne11 hne12 hne13 => fr13 x8 hne0 hne9), 0, m_tp, m_fo, m_le, m_bc, m_bg, m_bs, m_be, m_b0, m_b1, m_cm, m_hc, wh, mi, ta, ho15, fx261, fx262, fx263, Or.inr ⟨(fun g9 => by have h9 := g9.1; unfold sp_pl at h9; omega), rfl, rfl, rfl, rfl, rfl⟩, by omega, by omega⟩ dX13_answer_24

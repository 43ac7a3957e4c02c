set_option maxHeartbeats 4000000 in
set_option maxRecDepth 100000 in
theorem t_X13_readLine (l : Launch) (D : va_G) (cs : Nat → ClassId) (B : Nat) (G : hq_G) (V : hp_V) (n : Nat) (hI : hq_I cs G V) (q : Nat) (hR : hq_RT G q) (mo : Nat) (h_mo : G mo = some (24, 0, 0, 0)) {m_tp m_sz m_fr m_bh m_hd m_ft m_fa m_le m_fo m_as m_fd m_bc m_bg m_bs m_be m_b0 m_b1 m_cm m_hc : Int32} (ho_mo : V mo = some (.inr (13, hm_o q (m_tp) (m_sz) (m_fr) (m_bh) (m_hd) (m_ft) (m_fa) (m_le) (m_fo) (m_as) (m_fd) (m_bc) (m_bg) (m_bs) (m_be) (m_b0) (m_b1) (m_cm) (m_hc)))) (hi_mo0 : 0 ≤ m_tp.toInt ∧ m_tp.toInt ≤ 4000) (hi_mo1 : 0 ≤ m_sz.toInt ∧ m_sz.toInt ≤ 4000) (hi_mo2 : 0 ≤ m_le.toInt ∧ m_le.toInt ≤ 276) (hi_mo3 : 0 ≤ m_fo.toInt ∧ m_fo.toInt ≤ 4) (hi_mo4 : 0 ≤ m_as.toInt ∧ m_as.toInt ≤ 4000) (hi_mo5 : 0 ≤ m_fd.toInt ∧ m_fd.toInt ≤ 900) (hi_mo6 : 0 ≤ m_cm.toInt ∧ m_cm.toInt ≤ 2) (hi_mo7 : 0 ≤ m_hc.toInt ∧ m_hc.toInt ≤ 1) (hi_mo8 : hm_SC m_sz m_fr m_bh m_hd) : hq_M l yX13_readLine cX13_readLine 3 none ({ frames := 10, cells := 0, slots := 0, locals := 212 }) D cs B V n [.ref (mo)] (hq_QX D cs B (fun v V' n' => v = none ∧ n = n' ∧ hq_P cs G (fun g => g.1 == 1 || g.1 == 41 || g.1 == 50) V V' ∧ (∃ (m_fr1 : Int32) (m_bh1 : Int32) (m_hd1 : Int32) (m_ft1 : Int32) (m_fa1 : Int32), V' mo = some (.inr (13, hm_o q (m_tp) (m_sz) (m_fr1) (m_bh1) (m_hd1) (m_ft1) (m_fa1) (m_le) (m_fo) (m_as) (m_fd) (m_bc) (m_bg) (m_bs) (m_be) (m_b0) (m_b1) (m_cm) (m_hc))) ∧ (hm_SC m_sz m_fr1 m_bh1 m_hd1) ∧ (m_bh.toInt ≤ m_bh1.toInt)) ∧ (hm_JH cs V V' q ∧ hm_JJ cs V V' q)) (fun x V' n' => x = q + 19 ∧ n = n' ∧ hq_P cs G (fun g => g.1 == 1 || g.1 == 41 || g.1 == 50) V V' ∧ (∃ (m_fr1 : Int32) (m_bh1 : Int32) (m_hd1 : Int32) (m_ft1 : Int32) (m_fa1 : Int32), V' mo = some (.inr (13, hm_o q (m_tp) (m_sz) (m_fr1) (m_bh1) (m_hd1) (m_ft1) (m_fa1) (m_le) (m_fo) (m_as) (m_fd) (m_bc) (m_bg) (m_bs) (m_be) (m_b0) (m_b1) (m_cm) (m_hc))) ∧ (hm_SC m_sz m_fr1 m_bh1 m_hd1) ∧ (m_bh.toInt ≤ m_bh1.toInt)) ∧ hm_JH cs V V' q)) 0 0 := by
  refine hq_walk (R0 := RX13) (by decide) rfl ?_ (Nat.le_of_ble_eq_true rfl)
  intro p e s m below meth c ls hx hb hr hts hown hlocks hin hml hnx hZ hl
  have hP : hq_P cs G (fun g => g.1 == 1 || g.1 == 41 || g.1 == 50) V V := hq_P.rf hI
  have hl : lv_has ls 3 [(0, .ref (mo))] := hl
  have hb_m_tp := hq_rng m_tp
  have hb_m_sz := hq_rng m_sz
  have hb_m_fr := hq_rng m_fr
  have hb_m_bh := hq_rng m_bh
  have hb_m_hd := hq_rng m_hd
  have hb_m_ft := hq_rng m_ft
  have hb_m_fa := hq_rng m_fa
  have hb_m_le := hq_rng m_le
  have hb_m_fo := hq_rng m_fo
  have hb_m_as := hq_rng m_as
  have hb_m_fd := hq_rng m_fd
  have hb_m_bc := hq_rng m_bc
  have hb_m_bg := hq_rng m_bg
  have hb_m_bs := hq_rng m_bs
  have hb_m_be := hq_rng m_be
  have hb_m_b0 := hq_rng m_b0
  have hb_m_b1 := hq_rng m_b1
  have hb_m_cm := hq_rng m_cm
  have hb_m_hc := hq_rng m_hc
  obtain ⟨hN3, g2, eV1, hf4⟩ := hq_o21 hP.1 (hr_10 hR)
  obtain ⟨hN7, g6, eV5, hf8⟩ := hq_o21 hP.1 (hr_14 hR)
  obtain ⟨hN11, g10, eV9, hf12⟩ := hq_o21 hP.1 (hr_2 hR)
  refine lv_aload_n hx hb dX13_readLine_0 rfl (lv_at hl 0 rfl) ?_
  refine va_ldcS (tx := (hp_so.getD 4 ("", 0, "")).2.2) (q := cs (100 + 4)) hx hb hown (hZ.2.2.2.2.2.2.2.2.2.2 4 (by decide)) dX13_readLine_1 ?_
  refine hp_calli (hp_runV (As := [.ref (cs (100 + 4))]) (rest := []) hx hb hml hown hts (t_X13_is l D cs B G  V n hP.1 q hR (mo) h_mo 4 (by decide) ho_mo  (by omega) (by omega) (by omega) (by omega) (by omega) (by omega) (by omega) (by omega) (by assumption) ) hZ ho_mo cv_X13_103 rfl rfl ⟨Nat.le_of_ble_eq_true rfl, Nat.le_of_ble_eq_true rfl⟩ rfl hl.1 rfl (Nat.le_of_ble_eq_true rfl) dX13_readLine_3 ⟨(Nat.le_of_ble_eq_true rfl), (Nat.le_of_ble_eq_true rfl)⟩) hZ (fun r16 V13 n14 _ _ hw15 hZ => ?_)
  obtain ⟨rfl, hq17, ho19, hr18⟩ := hw15
  have hP := hP.trans hq17 (fun _ _ => rfl)
  have b20 := hq_rng r16
  refine lv_if_eq (tgt := 13) hx hb dX13_readLine_6 (by decide) (fun c21 => ?_) (fun c21 => ?_)
  · have c21 : (r16).toInt = (0 : Int) := hq_eqi.mp c21
    refine lv_aload_n hx hb dX13_readLine_13 rfl (lv_at hl 0 rfl) ?_
    refine va_ldcS (tx := (hp_so.getD 6 ("", 0, "")).2.2) (q := cs (100 + 6)) hx hb hown (hZ.2.2.2.2.2.2.2.2.2.2 6 (by decide)) dX13_readLine_14 ?_
    refine hp_calli (hp_runV (As := [.ref (cs (100 + 6))]) (rest := []) hx hb hml hown hts (t_X13_is l D cs B G  V13 n hP.1 q hR (mo) h_mo 6 (by decide) ho19  (by omega) (by omega) (by omega) (by omega) (by omega) (by omega) (by omega) (by omega) (by assumption) ) hZ ho19 cv_X13_103 rfl rfl ⟨Nat.le_of_ble_eq_true rfl, Nat.le_of_ble_eq_true rfl⟩ rfl hl.1 rfl (Nat.le_of_ble_eq_true rfl) dX13_readLine_16 ⟨(Nat.le_of_ble_eq_true rfl), (Nat.le_of_ble_eq_true rfl)⟩) hZ (fun r25 V22 n23 _ _ hw24 hZ => ?_)
    obtain ⟨rfl, hq26, ho28, hr27⟩ := hw24
    have hP := hP.trans hq26 (fun _ _ => rfl)
    have b29 := hq_rng r25
    refine lv_if_eq (tgt := 26) hx hb dX13_readLine_19 (by decide) (fun c30 => ?_) (fun c30 => ?_)
    · have c30 : (r25).toInt = (0 : Int) := hq_eqi.mp c30
      refine lv_aload_n hx hb dX13_readLine_26 rfl (lv_at hl 0 rfl) ?_
      refine va_ldcS (tx := (hp_so.getD 7 ("", 0, "")).2.2) (q := cs (100 + 7)) hx hb hown (hZ.2.2.2.2.2.2.2.2.2.2 7 (by decide)) dX13_readLine_27 ?_
      refine hp_calli (hp_runV (As := [.ref (cs (100 + 7))]) (rest := []) hx hb hml hown hts (t_X13_is l D cs B G  V22 n hP.1 q hR (mo) h_mo 7 (by decide) ho28  (by omega) (by omega) (by omega) (by omega) (by omega) (by omega) (by omega) (by omega) (by assumption) ) hZ ho28 cv_X13_103 rfl rfl ⟨Nat.le_of_ble_eq_true rfl, Nat.le_of_ble_eq_true rfl⟩ rfl hl.1 rfl (Nat.le_of_ble_eq_true rfl) dX13_readLine_29 ⟨(Nat.le_of_ble_eq_true rfl), (Nat.le_of_ble_eq_true rfl)⟩) hZ (fun r34 V31 n32 _ _ hw33 hZ => ?_)
      obtain ⟨rfl, hq35, ho37, hr36⟩ := hw33
      have hP := hP.trans hq35 (fun _ _ => rfl)
      have b38 := hq_rng r34
      refine lv_if_eq (tgt := 39) hx hb dX13_readLine_32 (by decide) (fun c39 => ?_) (fun c39 => ?_)
      · have c39 : (r34).toInt = (0 : Int) := hq_eqi.mp c39
        refine lv_aload_n hx hb dX13_readLine_39 rfl (lv_at hl 0 rfl) ?_
        refine va_ldcS (tx := (hp_so.getD 9 ("", 0, "")).2.2) (q := cs (100 + 9)) hx hb hown (hZ.2.2.2.2.2.2.2.2.2.2 9 (by decide)) dX13_readLine_40 ?_
        refine hp_calli (hp_runV (As := [.ref (cs (100 + 9))]) (rest := []) hx hb hml hown hts (t_X13_is l D cs B G  V31 n hP.1 q hR (mo) h_mo 9 (by decide) ho37  (by omega) (by omega) (by omega) (by omega) (by omega) (by omega) (by omega) (by omega) (by assumption) ) hZ ho37 cv_X13_103 rfl rfl ⟨Nat.le_of_ble_eq_true rfl, Nat.le_of_ble_eq_true rfl⟩ rfl hl.1 rfl (Nat.le_of_ble_eq_true rfl) dX13_readLine_42 ⟨(Nat.le_of_ble_eq_true rfl), (Nat.le_of_ble_eq_true rfl)⟩) hZ (fun r43 V40 n41 _ _ hw42 hZ => ?_)
        obtain ⟨rfl, hq44, ho46, hr45⟩ := hw42
        have hP := hP.trans hq44 (fun _ _ => rfl)
        have b47 := hq_rng r43
        refine lv_if_eq (tgt := 52) hx hb dX13_readLine_45 (by decide) (fun c48 => ?_) (fun c48 => ?_)
        · have c48 : (r43).toInt = (0 : Int) := hq_eqi.mp c48
          refine lv_aload_n hx hb dX13_readLine_52 rfl (lv_at hl 0 rfl) ?_
          refine va_ldcS (tx := (hp_so.getD 13 ("", 0, "")).2.2) (q := cs (100 + 13)) hx hb hown (hZ.2.2.2.2.2.2.2.2.2.2 13 (by decide)) dX13_readLine_53 ?_
          refine hp_calli (hp_runV (As := [.ref (cs (100 + 13))]) (rest := []) hx hb hml hown hts (t_X13_is l D cs B G  V40 n hP.1 q hR (mo) h_mo 13 (by decide) ho46  (by omega) (by omega) (by omega) (by omega) (by omega) (by omega) (by omega) (by omega) (by assumption) ) hZ ho46 cv_X13_103 rfl rfl ⟨Nat.le_of_ble_eq_true rfl, Nat.le_of_ble_eq_true rfl⟩ rfl hl.1 rfl (Nat.le_of_ble_eq_true rfl) dX13_readLine_55 ⟨(Nat.le_of_ble_eq_true rfl), (Nat.le_of_ble_eq_true rfl)⟩) hZ (fun r52 V49 n50 _ _ hw51 hZ => ?_)
          obtain ⟨rfl, hq53, ho55, hr54⟩ := hw51
          have hP := hP.trans hq53 (fun _ _ => rfl)
          have b56 := hq_rng r52
          refine lv_if_eq (tgt := 65) hx hb dX13_readLine_58 (by decide) (fun c57 => ?_) (fun c57 => ?_)
          · have c57 : (r52).toInt = (0 : Int) := hq_eqi.mp c57
            refine lv_aload_n hx hb dX13_readLine_65 rfl (lv_at hl 0 rfl) ?_
            refine va_ldcS (tx := (hp_so.getD 14 ("", 0, "")).2.2) (q := cs (100 + 14)) hx hb hown (hZ.2.2.2.2.2.2.2.2.2.2 14 (by decide)) dX13_readLine_66 ?_
            refine hp_calli (hp_runV (As := [.ref (cs (100 + 14))]) (rest := []) hx hb hml hown hts (t_X13_is l D cs B G  V49 n hP.1 q hR (mo) h_mo 14 (by decide) ho55  (by omega) (by omega) (by omega) (by omega) (by omega) (by omega) (by omega) (by omega) (by assumption) ) hZ ho55 cv_X13_103 rfl rfl ⟨Nat.le_of_ble_eq_true rfl, Nat.le_of_ble_eq_true rfl⟩ rfl hl.1 rfl (Nat.le_of_ble_eq_true rfl) dX13_readLine_68 ⟨(Nat.le_of_ble_eq_true rfl), (Nat.le_of_ble_eq_true rfl)⟩) hZ (fun r61 V58 n59 _ _ hw60 hZ => ?_)
            obtain ⟨rfl, hq62, ho64, hr63⟩ := hw60
            have hP := hP.trans hq62 (fun _ _ => rfl)
            have b65 := hq_rng r61
            refine lv_if_eq (tgt := 78) hx hb dX13_readLine_71 (by decide) (fun c66 => ?_) (fun c66 => ?_)
            · have c66 : (r61).toInt = (0 : Int) := hq_eqi.mp c66
              refine lv_iconst (v := -1) hx hb dX13_readLine_78 (by decide) ?_
              refine lv_istore_n (lv' := [(1, .int (-1)), (0, .ref (mo))]) hx hb dX13_readLine_79 rfl hl (by decide) rfl (fun ls hl => ?_)
              refine lv_iload_n hx hb dX13_readLine_80 rfl (lv_at hl 0 rfl) ?_
              refine lv_iconst (v := -1) hx hb dX13_readLine_81 (by decide) ?_
              refine lv_icmp_ne (tgt := 91) hx hb dX13_readLine_82 (by decide) (fun c67 => absurd (by decide) c67) (fun c67 => ?_)
              refine lv_aload_n hx hb dX13_readLine_85 rfl (lv_at hl 1 rfl) ?_
              refine lv_iconst (v := 1) hx hb dX13_readLine_86 (by decide) ?_
              have hl77 : (1 : Int32).toInt = 1 := by decide
              refine hp_callq (hp_runV (As := [.int (1)]) (rest := []) hx hb hml hown hts (t_X13_wrong l D cs B G  V58 n hP.1 q hR (mo) h_mo (1) ho64  (by omega) (by omega) (by omega) (by omega) (by omega) (by omega) (by omega) (by omega) ) hZ ho64 cv_X13_107 rfl rfl ⟨Nat.le_of_ble_eq_true rfl, Nat.le_of_ble_eq_true rfl⟩ rfl hl.1 rfl (Nat.le_of_ble_eq_true rfl) dX13_readLine_87 ⟨(Nat.le_of_ble_eq_true rfl), (Nat.le_of_ble_eq_true rfl)⟩) hZ (fun r71 V68 n69 _ _ hw70 hZ => ?_)
              obtain ⟨rfl, hq72, ⟨z74, z75, ho76⟩, hr73⟩ := hw70
              have hP := hP.trans hq72 (by intro g h; simp_all)
              have b78 := hq_rng z74
              have b79 := hq_rng z75
              subst hr73
              refine W.eq (g2 := F0 m 90 ls [.ref (q + 19)]) rfl ?_
              have fx80 : V68 (q + 10) = some (.inl (cs 1, 120, .inl (g2))) := (hq72.2 (q + 10) _ (hr_10 hR) rfl).trans ((hq62.2 (q + 10) _ (hr_10 hR) rfl).trans ((hq53.2 (q + 10) _ (hr_10 hR) rfl).trans ((hq44.2 (q + 10) _ (hr_10 hR) rfl).trans ((hq35.2 (q + 10) _ (hr_10 hR) rfl).trans ((hq26.2 (q + 10) _ (hr_10 hR) rfl).trans ((hq17.2 (q + 10) _ (hr_10 hR) rfl).trans (eV1)))))))
              have fx81 : V68 (q + 14) = some (.inl (cs 1, 120, .inl (g6))) := (hq72.2 (q + 14) _ (hr_14 hR) rfl).trans ((hq62.2 (q + 14) _ (hr_14 hR) rfl).trans ((hq53.2 (q + 14) _ (hr_14 hR) rfl).trans ((hq44.2 (q + 14) _ (hr_14 hR) rfl).trans ((hq35.2 (q + 14) _ (hr_14 hR) rfl).trans ((hq26.2 (q + 14) _ (hr_14 hR) rfl).trans ((hq17.2 (q + 14) _ (hr_14 hR) rfl).trans (eV5)))))))
              have fx82 : V68 (q + 2) = some (.inl (cs 1, 2, .inl (g10))) := (hq72.2 (q + 2) _ (hr_2 hR) rfl).trans ((hq62.2 (q + 2) _ (hr_2 hR) rfl).trans ((hq53.2 (q + 2) _ (hr_2 hR) rfl).trans ((hq44.2 (q + 2) _ (hr_2 hR) rfl).trans ((hq35.2 (q + 2) _ (hr_2 hR) rfl).trans ((hq26.2 (q + 2) _ (hr_2 hR) rfl).trans ((hq17.2 (q + 2) _ (hr_2 hR) rfl).trans (eV9)))))))
              exact hq_athrow hx hb hnx hlocks hZ ⟨rfl, rfl, hP, ⟨m_fr, m_bh, m_hd, z74, z75, ho76, by assumption, by omega⟩, (hm_JH.of eV1 eV5 eV9 fx80 fx81 fx82 (fun j hj => rfl) (fun j hj => rfl) rfl (hq_rg hI (hr_2 hR) eV9 0 (by decide)).2)⟩ dX13_readLine_90
            · have c66 : ¬ (r61).toInt = (0 : Int) := fun h9 => c66 (hq_eqi.mpr h9)
              refine lv_iconst (v := 5) hx hb dX13_readLine_74 (by decide) ?_
              refine lv_goto (tgt := 79) hx hb dX13_readLine_75 (by decide) ?_
              refine lv_istore_n (lv' := [(1, .int (5)), (0, .ref (mo))]) hx hb dX13_readLine_79 rfl hl (by decide) rfl (fun ls hl => ?_)
              refine lv_iload_n hx hb dX13_readLine_80 rfl (lv_at hl 0 rfl) ?_
              refine lv_iconst (v := -1) hx hb dX13_readLine_81 (by decide) ?_
              refine lv_icmp_ne (tgt := 91) hx hb dX13_readLine_82 (by decide) (fun c83 => ?_) (fun c83 => absurd c83 (by decide))
              refine lv_aload_n hx hb dX13_readLine_91 rfl (lv_at hl 1 rfl) ?_
              refine hp_get (v := .ref (q + 2)) hx hb hts hown hZ ho64 fl_X13_10 rfl dX13_readLine_92 ?_
              refine lv_iconst (v := 1) hx hb dX13_readLine_95 (by decide) ?_
              have fx84 : V58 (q + 2) = some (.inl (cs 1, 2, .inl (g10))) := (hq62.2 (q + 2) _ (hr_2 hR) rfl).trans ((hq53.2 (q + 2) _ (hr_2 hR) rfl).trans ((hq44.2 (q + 2) _ (hr_2 hR) rfl).trans ((hq35.2 (q + 2) _ (hr_2 hR) rfl).trans ((hq26.2 (q + 2) _ (hr_2 hR) rfl).trans ((hq17.2 (q + 2) _ (hr_2 hR) rfl).trans (eV9))))))
              refine hp_iald hx hb hZ fx84 (by unfold vp_in; decide) dX13_readLine_96 ?_
              refine lv_topi (fun y85 ey86 => ?_)
              have b88 : (y85).toInt = ((g10) (1 : Int32).toNatClampNeg).toInt := by rw [ey86]
              have b87 : hq_ir (hq_lo 8) (hq_hi 8) y85 := by rw [ey86]; exact hf12 _ (by decide)
              have b87 : 0 ≤ (y85).toInt ∧ (y85).toInt ≤ 60 := b87
              refine lv_bipush (v := 60) hx hb dX13_readLine_97 (by decide) ?_
              refine lv_icmp_ne (tgt := 108) hx hb dX13_readLine_99 (by decide) (fun c89 => ?_) (fun c89 => ?_)
              · have c89 : ¬ (y85).toInt = (60 : Int) := fun h9 => c89 (hq_eqi.mpr h9)
                refine lv_bipush (v := 60) hx hb dX13_readLine_108 (by decide) ?_
                refine lv_aload_n hx hb dX13_readLine_110 rfl (lv_at hl 1 rfl) ?_
                refine hp_get (v := .ref (q + 2)) hx hb hts hown hZ ho64 fl_X13_10 rfl dX13_readLine_111 ?_
                refine lv_iconst (v := 1) hx hb dX13_readLine_114 (by decide) ?_
                refine hp_iald hx hb hZ fx84 (by unfold vp_in; decide) dX13_readLine_115 ?_
                refine lv_topi (fun y90 ey91 => ?_)
                have b93 : (y90).toInt = ((g10) (1 : Int32).toNatClampNeg).toInt := by rw [ey91]
                have b92 : hq_ir (hq_lo 8) (hq_hi 8) y90 := by rw [ey91]; exact hf12 _ (by decide)
                have b92 : 0 ≤ (y90).toInt ∧ (y90).toInt ≤ 60 := b92
                refine lv_iadd hx hb dX13_readLine_116 ?_
                refine lv_topi (fun y94 ey95 => ?_)
                obtain ⟨k96, hk97, b98, b99⟩ := hq_add (60) (y90)
                rw [← ey95] at hk97 b98 b99
                have hk97 : (y94).toInt = (60 : Int) + (y90).toInt + k96 * 4294967296 := hk97
                obtain rfl : k96 = 0 := by omega
                refine lv_istore_n (lv' := [(2, .int (y94)), (1, .int (5)), (0, .ref (mo))]) hx hb dX13_readLine_117 rfl hl (by decide) rfl (fun ls hl => ?_)
                refine lv_aload_n hx hb dX13_readLine_118 rfl (lv_at hl 2 rfl) ?_
                refine hp_get (v := .ref (q + 10)) hx hb hts hown hZ ho64 fl_X13_29 rfl dX13_readLine_119 ?_
                refine lv_iload_n hx hb dX13_readLine_122 rfl (lv_at hl 0 rfl) ?_
                refine lv_iload_n hx hb dX13_readLine_123 rfl (lv_at hl 1 rfl) ?_
                have fx100 : V58 (q + 10) = some (.inl (cs 1, 120, .inl (g2))) := (hq62.2 (q + 10) _ (hr_10 hR) rfl).trans ((hq53.2 (q + 10) _ (hr_10 hR) rfl).trans ((hq44.2 (q + 10) _ (hr_10 hR) rfl).trans ((hq35.2 (q + 10) _ (hr_10 hR) rfl).trans ((hq26.2 (q + 10) _ (hr_10 hR) rfl).trans ((hq17.2 (q + 10) _ (hr_10 hR) rfl).trans (eV1))))))
                refine hp_iast hx hb hZ fx100 (hq_in (by omega) (by omega)) dX13_readLine_124 (fun V101 _ _ e102 o103 hZ => ?_)
                have e102 : V101 (q + 10) = some (.inl (cs 1, 120, .inl (upd (g2) ((y94 : Int32).toNatClampNeg) (5)))) := e102
                have hl104 : (5 : Int32).toInt = 5 := by decide
                have hP := hP.put (hr_10 hR) e102 o103 (hq_c21 (by omega) (hq_upd hf4 (hq_rng _))) rfl
                obtain ⟨g105, ge106⟩ : ∃ g9 : Nat → Int32, g9 = upd (g2) ((y94 : Int32).toNatClampNeg) (5) := ⟨_, rfl⟩
                have fx108 : V101 (q + 10) = some (.inl (cs 1, 120, .inl (g105))) := by rw [ge106]; exact e102
                have hf107 := hq_rg hP.1 (hr_10 hR) fx108
                have b109 : (g105 (y94 : Int32).toNatClampNeg).toInt = (5 : Int32).toInt := congrArg Int32.toInt ((congrFun ge106 _).trans hm_ue)
                have b110 : (5 : Int32).toInt = 5 := by decide
                refine lv_aload_n hx hb dX13_readLine_125 rfl (lv_at hl 2 rfl) ?_
                have fx111 : V101 (mo) = some (.inr (13, hm_o q (m_tp) (m_sz) (m_fr) (m_bh) (m_hd) (m_ft) (m_fa) (m_le) (m_fo) (m_as) (m_fd) (m_bc) (m_bg) (m_bs) (m_be) (m_b0) (m_b1) (m_cm) (m_hc))) := (o103 (mo) (hq_tne h_mo (hr_10 hR) (by simp))).trans (ho64)
                refine hp_get (v := .ref (q + 11)) hx hb hts hown hZ fx111 fl_X13_32 rfl dX13_readLine_126 ?_
                refine lv_iload_n hx hb dX13_readLine_129 rfl (lv_at hl 0 rfl) ?_
                refine lv_iconst (v := -1) hx hb dX13_readLine_130 (by decide) ?_
                obtain ⟨hN114, g113, eV112, hf115⟩ := hq_o21 hP.1 (hr_11 hR)
                refine hp_iast hx hb hZ eV112 (hq_in (by omega) (by omega)) dX13_readLine_131 (fun V116 _ _ e117 o118 hZ => ?_)
                have e117 : V116 (q + 11) = some (.inl (cs 1, 120, .inl (upd (g113) ((y94 : Int32).toNatClampNeg) (-1)))) := e117
                have hl119 : (-1 : Int32).toInt = -1 := by decide
                have hP := hP.put (hr_11 hR) e117 o118 (hq_c21 (by omega) (hq_upd hf115 (hq_rng _))) rfl
                refine lv_aload_n hx hb dX13_readLine_132 rfl (lv_at hl 2 rfl) ?_
                have fx120 : V116 (mo) = some (.inr (13, hm_o q (m_tp) (m_sz) (m_fr) (m_bh) (m_hd) (m_ft) (m_fa) (m_le) (m_fo) (m_as) (m_fd) (m_bc) (m_bg) (m_bs) (m_be) (m_b0) (m_b1) (m_cm) (m_hc))) := (o118 (mo) (hq_tne h_mo (hr_11 hR) (by simp))).trans (fx111)
                refine hp_get (v := .ref (q + 12)) hx hb hts hown hZ fx120 fl_X13_35 rfl dX13_readLine_133 ?_
                refine lv_iload_n hx hb dX13_readLine_136 rfl (lv_at hl 0 rfl) ?_
                refine lv_iconst (v := -1) hx hb dX13_readLine_137 (by decide) ?_
                obtain ⟨hN123, g122, eV121, hf124⟩ := hq_o21 hP.1 (hr_12 hR)
                refine hp_iast hx hb hZ eV121 (hq_in (by omega) (by omega)) dX13_readLine_138 (fun V125 _ _ e126 o127 hZ => ?_)
                have e126 : V125 (q + 12) = some (.inl (cs 1, 120, .inl (upd (g122) ((y94 : Int32).toNatClampNeg) (-1)))) := e126
                have hl128 : (-1 : Int32).toInt = -1 := by decide
                have hP := hP.put (hr_12 hR) e126 o127 (hq_c21 (by omega) (hq_upd hf124 (hq_rng _))) rfl
                refine lv_aload_n hx hb dX13_readLine_139 rfl (lv_at hl 2 rfl) ?_
                have fx129 : V125 (mo) = some (.inr (13, hm_o q (m_tp) (m_sz) (m_fr) (m_bh) (m_hd) (m_ft) (m_fa) (m_le) (m_fo) (m_as) (m_fd) (m_bc) (m_bg) (m_bs) (m_be) (m_b0) (m_b1) (m_cm) (m_hc))) := (o127 (mo) (hq_tne h_mo (hr_12 hR) (by simp))).trans (fx120)
                refine hp_get (v := .ref (q + 13)) hx hb hts hown hZ fx129 fl_X13_38 rfl dX13_readLine_140 ?_
                refine lv_iload_n hx hb dX13_readLine_143 rfl (lv_at hl 0 rfl) ?_
                refine lv_iconst (v := -1) hx hb dX13_readLine_144 (by decide) ?_
                obtain ⟨hN132, g131, eV130, hf133⟩ := hq_o21 hP.1 (hr_13 hR)
                refine hp_iast hx hb hZ eV130 (hq_in (by omega) (by omega)) dX13_readLine_145 (fun V134 _ _ e135 o136 hZ => ?_)
                have e135 : V134 (q + 13) = some (.inl (cs 1, 120, .inl (upd (g131) ((y94 : Int32).toNatClampNeg) (-1)))) := e135
                have hl137 : (-1 : Int32).toInt = -1 := by decide
                have hP := hP.put (hr_13 hR) e135 o136 (hq_c21 (by omega) (hq_upd hf133 (hq_rng _))) rfl
                refine lv_aload_n hx hb dX13_readLine_146 rfl (lv_at hl 2 rfl) ?_
                have fx138 : V134 (mo) = some (.inr (13, hm_o q (m_tp) (m_sz) (m_fr) (m_bh) (m_hd) (m_ft) (m_fa) (m_le) (m_fo) (m_as) (m_fd) (m_bc) (m_bg) (m_bs) (m_be) (m_b0) (m_b1) (m_cm) (m_hc))) := (o136 (mo) (hq_tne h_mo (hr_13 hR) (by simp))).trans (fx129)
                refine hp_get (v := .ref (q + 14)) hx hb hts hown hZ fx138 fl_X13_41 rfl dX13_readLine_147 ?_
                refine lv_iload_n hx hb dX13_readLine_150 rfl (lv_at hl 0 rfl) ?_
                refine lv_iconst (v := 0) hx hb dX13_readLine_151 (by decide) ?_
                have fx139 : V134 (q + 14) = some (.inl (cs 1, 120, .inl (g6))) := (o136 (q + 14) (hq_ne q 14 13 (by decide))).trans ((o127 (q + 14) (hq_ne q 14 12 (by decide))).trans ((o118 (q + 14) (hq_ne q 14 11 (by decide))).trans ((o103 (q + 14) (hq_ne q 14 10 (by decide))).trans ((hq62.2 (q + 14) _ (hr_14 hR) rfl).trans ((hq53.2 (q + 14) _ (hr_14 hR) rfl).trans ((hq44.2 (q + 14) _ (hr_14 hR) rfl).trans ((hq35.2 (q + 14) _ (hr_14 hR) rfl).trans ((hq26.2 (q + 14) _ (hr_14 hR) rfl).trans ((hq17.2 (q + 14) _ (hr_14 hR) rfl).trans (eV5))))))))))
                refine hp_iast hx hb hZ fx139 (hq_in (by omega) (by omega)) dX13_readLine_152 (fun V140 _ _ e141 o142 hZ => ?_)
                have e141 : V140 (q + 14) = some (.inl (cs 1, 120, .inl (upd (g6) ((y94 : Int32).toNatClampNeg) (0)))) := e141
                have hl143 : (0 : Int32).toInt = 0 := by decide
                have hP := hP.put (hr_14 hR) e141 o142 (hq_c21 (by omega) (hq_upd hf8 (show 0 ≤ _ ∧ _ ≤ 8 by constructor <;> omega))) rfl
                obtain ⟨g144, ge145⟩ : ∃ g9 : Nat → Int32, g9 = upd (g6) ((y94 : Int32).toNatClampNeg) (0) := ⟨_, rfl⟩
                have fx147 : V140 (q + 14) = some (.inl (cs 1, 120, .inl (g144))) := by rw [ge145]; exact e141
                have hf146 := hq_rg hP.1 (hr_14 hR) fx147
                have b148 : (g144 (y94 : Int32).toNatClampNeg).toInt = (0 : Int32).toInt := congrArg Int32.toInt ((congrFun ge145 _).trans hm_ue)
                have b149 : (0 : Int32).toInt = 0 := by decide
                refine lv_aload_n hx hb dX13_readLine_153 rfl (lv_at hl 2 rfl) ?_
                have fx150 : V140 (mo) = some (.inr (13, hm_o q (m_tp) (m_sz) (m_fr) (m_bh) (m_hd) (m_ft) (m_fa) (m_le) (m_fo) (m_as) (m_fd) (m_bc) (m_bg) (m_bs) (m_be) (m_b0) (m_b1) (m_cm) (m_hc))) := (o142 (mo) (hq_tne h_mo (hr_14 hR) (by simp))).trans (fx138)
                refine hp_get (v := .ref (q + 15)) hx hb hts hown hZ fx150 fl_X13_44 rfl dX13_readLine_154 ?_
                refine lv_iload_n hx hb dX13_readLine_157 rfl (lv_at hl 0 rfl) ?_
                refine lv_iconst (v := 0) hx hb dX13_readLine_158 (by decide) ?_
                obtain ⟨hN153, g152, eV151, hf154⟩ := hq_o21 hP.1 (hr_15 hR)
                refine hp_iast hx hb hZ eV151 (hq_in (by omega) (by omega)) dX13_readLine_159 (fun V155 _ _ e156 o157 hZ => ?_)
                have e156 : V155 (q + 15) = some (.inl (cs 1, 120, .inl (upd (g152) ((y94 : Int32).toNatClampNeg) (0)))) := e156
                have hl158 : (0 : Int32).toInt = 0 := by decide
                have hP := hP.put (hr_15 hR) e156 o157 (hq_c21 (by omega) (hq_upd hf154 (show 0 ≤ _ ∧ _ ≤ 8 by constructor <;> omega))) rfl
                refine lv_aload_n hx hb dX13_readLine_160 rfl (lv_at hl 2 rfl) ?_
                have fx159 : V155 (mo) = some (.inr (13, hm_o q (m_tp) (m_sz) (m_fr) (m_bh) (m_hd) (m_ft) (m_fa) (m_le) (m_fo) (m_as) (m_fd) (m_bc) (m_bg) (m_bs) (m_be) (m_b0) (m_b1) (m_cm) (m_hc))) := (o157 (mo) (hq_tne h_mo (hr_15 hR) (by simp))).trans (fx150)
                refine hp_get (v := .ref (q + 16)) hx hb hts hown hZ fx159 fl_X13_47 rfl dX13_readLine_161 ?_
                refine lv_iload_n hx hb dX13_readLine_164 rfl (lv_at hl 0 rfl) ?_
                refine lv_iconst (v := 0) hx hb dX13_readLine_165 (by decide) ?_
                obtain ⟨hN162, g161, eV160, hf163⟩ := hq_o21 hP.1 (hr_16 hR)
                refine hp_iast hx hb hZ eV160 (hq_in (by omega) (by omega)) dX13_readLine_166 (fun V164 _ _ e165 o166 hZ => ?_)
                have e165 : V164 (q + 16) = some (.inl (cs 1, 120, .inl (upd (g161) ((y94 : Int32).toNatClampNeg) (0)))) := e165
                have hl167 : (0 : Int32).toInt = 0 := by decide
                have hP := hP.put (hr_16 hR) e165 o166 (hq_c21 (by omega) (hq_upd hf163 (show 0 ≤ _ ∧ _ ≤ 29 by constructor <;> omega))) rfl
                refine lv_aload_n hx hb dX13_readLine_167 rfl (lv_at hl 2 rfl) ?_
                have fx174 : V164 (mo) = some (.inr (13, hm_o q (m_tp) (m_sz) (m_fr) (m_bh) (m_hd) (m_ft) (m_fa) (m_le) (m_fo) (m_as) (m_fd) (m_bc) (m_bg) (m_bs) (m_be) (m_b0) (m_b1) (m_cm) (m_hc))) := (o166 (mo) (hq_tne h_mo (hr_16 hR) (by simp))).trans (fx159)
                refine hp_callv (hp_runV (As := []) (rest := []) hx hb hml hown hts (t_X13_scan l D cs B G  V164 n hP.1 q hR (mo) h_mo fx174  (by omega) (by omega) (by omega) (by omega) (by omega) (by omega) (by omega) (by omega) (hm_SC.s0 (by assumption)) (hm_SC.s1 (by assumption) (by first | omega | (have h8 := hm_Is.hd (by assumption) (by omega); omega)))) hZ fx174 cv_X13_111 rfl rfl ⟨Nat.le_of_ble_eq_true rfl, Nat.le_of_ble_eq_true rfl⟩ rfl hl.1 rfl (Nat.le_of_ble_eq_true rfl) dX13_readLine_168 ⟨(Nat.le_of_ble_eq_true rfl), (Nat.le_of_ble_eq_true rfl)⟩) hZ (fun V168 n169 _ _ hw170 hZ => ?_)
                obtain ⟨rfl, hq172, ⟨z175, z176, z177, ho178, hi179, hi180, hi181⟩⟩ := hw170
                have hP := hP.trans hq172 (by intro g h; simp_all)
                have b182 := hq_rng z175
                have b183 := hq_rng z176
                have b184 := hq_rng z177
                refine lv_iload_n hx hb dX13_readLine_171 rfl (lv_at hl 1 rfl) ?_
                refine lv_iconst (v := 4) hx hb dX13_readLine_172 (by decide) ?_
                refine lv_icmp_eq (tgt := 181) hx hb dX13_readLine_173 (by decide) (fun c185 => absurd c185 (by decide)) (fun c185 => ?_)
                refine lv_iload_n hx hb dX13_readLine_176 rfl (lv_at hl 1 rfl) ?_
                refine lv_iconst (v := 5) hx hb dX13_readLine_177 (by decide) ?_
                refine lv_icmp_ne (tgt := 194) hx hb dX13_readLine_178 (by decide) (fun c186 => absurd (by decide) c186) (fun c186 => ?_)
                refine lv_aload_n hx hb dX13_readLine_181 rfl (lv_at hl 2 rfl) ?_
                refine hp_get (v := .ref (q + 11)) hx hb hts hown hZ ho178 fl_X13_32 rfl dX13_readLine_182 ?_
                refine lv_iload_n hx hb dX13_readLine_185 rfl (lv_at hl 0 rfl) ?_
                refine lv_aload_n hx hb dX13_readLine_186 rfl (lv_at hl 2 rfl) ?_
                have fx201 : V168 (q + 10) = some (.inl (cs 1, 120, .inl (g105))) := (hq172.2 (q + 10) _ (hr_10 hR) rfl).trans ((o166 (q + 10) (hq_ne q 10 16 (by decide))).trans ((o157 (q + 10) (hq_ne q 10 15 (by decide))).trans ((o142 (q + 10) (hq_ne q 10 14 (by decide))).trans ((o136 (q + 10) (hq_ne q 10 13 (by decide))).trans ((o127 (q + 10) (hq_ne q 10 12 (by decide))).trans ((o118 (q + 10) (hq_ne q 10 11 (by decide))).trans (fx108)))))))
                have fx202 : V168 (q + 14) = some (.inl (cs 1, 120, .inl (g144))) := (hq172.2 (q + 14) _ (hr_14 hR) rfl).trans ((o166 (q + 14) (hq_ne q 14 16 (by decide))).trans ((o157 (q + 14) (hq_ne q 14 15 (by decide))).trans (fx147)))
                have fx203 : V168 (q + 2) = some (.inl (cs 1, 2, .inl (g10))) := (hq172.2 (q + 2) _ (hr_2 hR) rfl).trans ((o166 (q + 2) (hq_ne q 2 16 (by decide))).trans ((o157 (q + 2) (hq_ne q 2 15 (by decide))).trans ((o142 (q + 2) (hq_ne q 2 14 (by decide))).trans ((o136 (q + 2) (hq_ne q 2 13 (by decide))).trans ((o127 (q + 2) (hq_ne q 2 12 (by decide))).trans ((o118 (q + 2) (hq_ne q 2 11 (by decide))).trans ((o103 (q + 2) (hq_ne q 2 10 (by decide))).trans (fx84))))))))
                refine hq_callx (hq_runV (As := []) (rest := [.int (y94), .ref (q + 11)]) hx hb hml hown hts (t_X13_takeVerb l D cs B G  V168 n hP.1 q hR (mo) h_mo ho178  (by omega) (by omega) (by omega) (by omega) (by omega) (by omega) (by omega) (by omega) (by assumption) ) hZ ho178 cv_X13_182 rfl rfl ⟨Nat.le_of_ble_eq_true rfl, Nat.le_of_ble_eq_true rfl⟩ rfl hl.1 rfl (Nat.le_of_ble_eq_true rfl) dX13_readLine_187 ⟨(Nat.le_of_ble_eq_true rfl), (Nat.le_of_ble_eq_true rfl)⟩) hZ hnx hlocks (by rintro x9 V9 n9 ⟨rfl, rfl, hq9, ⟨z193x, z194x, z195x, z196x, z197x, hox0, hix00, hix01⟩⟩; have hbxz193 := hq_rng z193x; have hbxz194 := hq_rng z194x; have hbxz195 := hq_rng z195x; have hbxz196 := hq_rng z196x; have hbxz197 := hq_rng z197x; exact ⟨rfl, rfl, hP.trans hq9 (by intro g h; simp_all), ⟨z193x, z194x, z195x, z196x, z197x, hox0, by assumption, by omega⟩, ((hm_JH.of eV1 eV5 eV9 fx201 fx202 fx203 (fun j hj => (congrFun ge106 j).trans (hm_ub (by omega) hj)) (fun j hj => (congrFun ge145 j).trans (hm_ub (by omega) hj)) rfl (hq_rg hI (hr_2 hR) eV9 0 (by decide)).2)).keep hR (fun x t hx hg => hq9.2 x t hx (by simp [hg]))⟩) (fun v9 V187 n188 _ _ hw189 hZ => ?_)
                obtain ⟨r190, rfl, rfl, hq191, ⟨z193, z194, z195, z196, z197, ho198, hi199, hi200⟩, hr192⟩ := hw189
                refine W.eq (g2 := F0 m 190 ls [.int (r190), .int (y94), .ref (q + 11)]) rfl ?_
                have hP := hP.trans hq191 (by intro g h; simp_all)
                have b204 := hq_rng z193
                have b205 := hq_rng z194
                have b206 := hq_rng z195
                have b207 := hq_rng z196
                have b208 := hq_rng z197
                have b209 := hq_rng r190
                obtain ⟨hN212, g211, eV210, hf213⟩ := hq_o21 hP.1 (hr_11 hR)
                refine hp_iast hx hb hZ eV210 (hq_in (by omega) (by omega)) dX13_readLine_190 (fun V214 _ _ e215 o216 hZ => ?_)
                have e215 : V214 (q + 11) = some (.inl (cs 1, 120, .inl (upd (g211) ((y94 : Int32).toNatClampNeg) (r190)))) := e215
                have hP := hP.put (hr_11 hR) e215 o216 (hq_c21 (by omega) (hq_upd hf213 (hq_rng _))) rfl
                refine lv_goto (tgt := 204) hx hb dX13_readLine_191 (by decide) ?_
                refine lv_iload_n hx hb dX13_readLine_204 rfl (lv_at hl 1 rfl) ?_
                refine lv_iconst (v := 2) hx hb dX13_readLine_205 (by decide) ?_
                refine lv_icmp_eq (tgt := 219) hx hb dX13_readLine_206 (by decide) (fun c217 => absurd c217 (by decide)) (fun c217 => ?_)
                refine lv_iload_n hx hb dX13_readLine_209 rfl (lv_at hl 1 rfl) ?_
                refine lv_iconst (v := 3) hx hb dX13_readLine_210 (by decide) ?_
                refine lv_icmp_eq (tgt := 219) hx hb dX13_readLine_211 (by decide) (fun c218 => absurd c218 (by decide)) (fun c218 => ?_)
                refine lv_aload_n hx hb dX13_readLine_214 rfl (lv_at hl 2 rfl) ?_
                refine lv_iload_n hx hb dX13_readLine_215 rfl (lv_at hl 0 rfl) ?_
                have fx225 : V214 (mo) = some (.inr (13, hm_o q (m_tp) (m_sz) (z193) (z194) (z195) (z196) (z197) (m_le) (m_fo) (m_as) (m_fd) (m_bc) (m_bg) (m_bs) (m_be) (m_b0) (m_b1) (m_cm) (m_hc))) := (o216 (mo) (hq_tne h_mo (hr_11 hR) (by simp))).trans (ho198)
                have fx234 : V214 (q + 10) = some (.inl (cs 1, 120, .inl (g105))) := (o216 (q + 10) (hq_ne q 10 11 (by decide))).trans ((hq191.2 (q + 10) _ (hr_10 hR) rfl).trans (fx201))
                have fx235 : V214 (q + 14) = some (.inl (cs 1, 120, .inl (g144))) := (o216 (q + 14) (hq_ne q 14 11 (by decide))).trans ((hq191.2 (q + 14) _ (hr_14 hR) rfl).trans (fx202))
                have fx236 : V214 (q + 2) = some (.inl (cs 1, 2, .inl (g10))) := (o216 (q + 2) (hq_ne q 2 11 (by decide))).trans ((hq191.2 (q + 2) _ (hr_2 hR) rfl).trans (fx203))
                refine hq_callx (hq_runV (As := [.int (y94)]) (rest := []) hx hb hml hown hts (t_X13_readSlot l D cs B G  V214 n hP.1 q hR (mo) h_mo (y94) fx225  (by omega) (by omega) (by omega) (by omega) (by omega) (by omega) (by omega) (by omega) (by assumption) (by omega) (by omega)) hZ fx225 cv_X13_189 rfl rfl ⟨Nat.le_of_ble_eq_true rfl, Nat.le_of_ble_eq_true rfl⟩ rfl hl.1 rfl (Nat.le_of_ble_eq_true rfl) dX13_readLine_216 ⟨(Nat.le_of_ble_eq_true rfl), (Nat.le_of_ble_eq_true rfl)⟩) hZ hnx hlocks (by rintro x9 V9 n9 ⟨rfl, rfl, hq9, ⟨z226x, z227x, z228x, z229x, z230x, hox0, hix00, hix01⟩⟩; have hbxz226 := hq_rng z226x; have hbxz227 := hq_rng z227x; have hbxz228 := hq_rng z228x; have hbxz229 := hq_rng z229x; have hbxz230 := hq_rng z230x; exact ⟨rfl, rfl, hP.trans hq9 (by intro g h; simp_all), ⟨z226x, z227x, z228x, z229x, z230x, hox0, by assumption, by omega⟩, ((hm_JH.of eV1 eV5 eV9 fx234 fx235 fx236 (fun j hj => (congrFun ge106 j).trans (hm_ub (by omega) hj)) (fun j hj => (congrFun ge145 j).trans (hm_ub (by omega) hj)) rfl (hq_rg hI (hr_2 hR) eV9 0 (by decide)).2)).keep hR (fun x t hx hg => hq9.2 x t hx (by simp [hg]))⟩) (fun v9 V219 n220 _ _ hw221 hZ => ?_)
                obtain ⟨rfl, rfl, hq223, ⟨z226, z227, z228, z229, z230, ho231, hi232, hi233⟩⟩ := hw221
                refine W.eq (g2 := F0 m 219 ls []) rfl ?_
                have hP := hP.trans hq223 (by intro g h; simp_all)
                have b237 := hq_rng z226
                have b238 := hq_rng z227
                have b239 := hq_rng z228
                have b240 := hq_rng z229
                have b241 := hq_rng z230
                refine lv_iload_n hx hb dX13_readLine_219 rfl (lv_at hl 1 rfl) ?_
                refine lv_iconst (v := 3) hx hb dX13_readLine_220 (by decide) ?_
                refine lv_icmp_ne (tgt := 229) hx hb dX13_readLine_221 (by decide) (fun c242 => ?_) (fun c242 => absurd c242 (by decide))
                refine lv_iload_n hx hb dX13_readLine_229 rfl (lv_at hl 1 rfl) ?_
                refine lv_if_eq (tgt := 248) hx hb dX13_readLine_230 (by decide) (fun c243 => absurd c243 (by decide)) (fun c243 => ?_)
                refine lv_iload_n hx hb dX13_readLine_233 rfl (lv_at hl 1 rfl) ?_
                refine lv_iconst (v := 1) hx hb dX13_readLine_234 (by decide) ?_
                refine lv_icmp_eq (tgt := 248) hx hb dX13_readLine_235 (by decide) (fun c244 => absurd c244 (by decide)) (fun c244 => ?_)
                refine lv_iload_n hx hb dX13_readLine_238 rfl (lv_at hl 1 rfl) ?_
                refine lv_iconst (v := 2) hx hb dX13_readLine_239 (by decide) ?_
                refine lv_icmp_eq (tgt := 248) hx hb dX13_readLine_240 (by decide) (fun c245 => absurd c245 (by decide)) (fun c245 => ?_)
                refine lv_iload_n hx hb dX13_readLine_243 rfl (lv_at hl 1 rfl) ?_
                refine lv_iconst (v := 4) hx hb dX13_readLine_244 (by decide) ?_
                refine lv_icmp_ne (tgt := 321) hx hb dX13_readLine_245 (by decide) (fun c246 => ?_) (fun c246 => absurd c246 (by decide))
                refine lv_iload_n hx hb dX13_readLine_321 rfl (lv_at hl 1 rfl) ?_
                refine lv_if_eq (tgt := 330) hx hb dX13_readLine_322 (by decide) (fun c247 => absurd c247 (by decide)) (fun c247 => ?_)
                refine lv_iload_n hx hb dX13_readLine_325 rfl (lv_at hl 1 rfl) ?_
                refine lv_iconst (v := 2) hx hb dX13_readLine_326 (by decide) ?_
                refine lv_icmp_ne (tgt := 365) hx hb dX13_readLine_327 (by decide) (fun c248 => ?_) (fun c248 => absurd c248 (by decide))
                refine lv_iload_n hx hb dX13_readLine_365 rfl (lv_at hl 1 rfl) ?_
                refine lv_iconst (v := 2) hx hb dX13_readLine_366 (by decide) ?_
                refine lv_icmp_ne (tgt := 390) hx hb dX13_readLine_367 (by decide) (fun c249 => ?_) (fun c249 => absurd c249 (by decide))
                refine lv_aload_n hx hb dX13_readLine_390 rfl (lv_at hl 2 rfl) ?_
                refine hp_get (v := .ref (q + 2)) hx hb hts hown hZ ho231 fl_X13_10 rfl dX13_readLine_391 ?_
                refine lv_iconst (v := 1) hx hb dX13_readLine_394 (by decide) ?_
                refine lv_dup2_11 hx hb dX13_readLine_395 rfl rfl ?_
                have fx250 : V219 (q + 2) = some (.inl (cs 1, 2, .inl (g10))) := (hq223.2 (q + 2) _ (hr_2 hR) rfl).trans (fx236)
                refine hp_iald hx hb hZ fx250 (by unfold vp_in; decide) dX13_readLine_396 ?_
                refine lv_topi (fun y251 ey252 => ?_)
                have b254 : (y251).toInt = ((g10) (1 : Int32).toNatClampNeg).toInt := by rw [ey252]
                have b253 : hq_ir (hq_lo 8) (hq_hi 8) y251 := by rw [ey252]; exact hf12 _ (by decide)
                have b253 : 0 ≤ (y251).toInt ∧ (y251).toInt ≤ 60 := b253
                refine lv_iconst (v := 1) hx hb dX13_readLine_397 (by decide) ?_
                refine lv_iadd hx hb dX13_readLine_398 ?_
                refine lv_topi (fun y255 ey256 => ?_)
                obtain ⟨k257, hk258, b259, b260⟩ := hq_add (y251) (1)
                rw [← ey256] at hk258 b259 b260
                have hk258 : (y255).toInt = (y251).toInt + (1 : Int) + k257 * 4294967296 := hk258
                obtain rfl : k257 = 0 := by omega
                refine hp_iast hx hb hZ fx250 (by unfold vp_in; decide) dX13_readLine_399 (fun V261 _ _ e262 o263 hZ => ?_)
                have e262 : V261 (q + 2) = some (.inl (cs 1, 2, .inl (upd (g10) ((1 : Int32).toNatClampNeg) (y255)))) := e262
                have hP := hP.put (hr_2 hR) e262 o263 (hq_c21 (by omega) (hq_upd hf12 (show 0 ≤ _ ∧ _ ≤ 60 by constructor <;> omega))) rfl
                obtain ⟨g264, ge265⟩ : ∃ g9 : Nat → Int32, g9 = upd (g10) ((1 : Int32).toNatClampNeg) (y255) := ⟨_, rfl⟩
                have fx267 : V261 (q + 2) = some (.inl (cs 1, 2, .inl (g264))) := by rw [ge265]; exact e262
                have hf266 := hq_rg hP.1 (hr_2 hR) fx267
                have b268 : (g264 (1 : Int32).toNatClampNeg).toInt = (y255 : Int32).toInt := congrArg Int32.toInt ((congrFun ge265 _).trans hm_ue)
                have fx269 : V261 (mo) = some (.inr (13, hm_o q (m_tp) (m_sz) (z226) (z227) (z228) (z229) (z230) (m_le) (m_fo) (m_as) (m_fd) (m_bc) (m_bg) (m_bs) (m_be) (m_b0) (m_b1) (m_cm) (m_hc))) := (o263 (mo) (hq_tne h_mo (hr_2 hR) (by simp))).trans (ho231)
                have fx270 : V261 (q + 10) = some (.inl (cs 1, 120, .inl (g105))) := (o263 (q + 10) (hq_ne q 10 2 (by decide))).trans ((hq223.2 (q + 10) _ (hr_10 hR) rfl).trans (fx234))
                have fx271 : V261 (q + 14) = some (.inl (cs 1, 120, .inl (g144))) := (o263 (q + 14) (hq_ne q 14 2 (by decide))).trans ((hq223.2 (q + 14) _ (hr_14 hR) rfl).trans (fx235))
                exact hq_vret hx hb hr hlocks hZ ⟨rfl, rfl, hP, ⟨z226, z227, z228, z229, z230, fx269, by assumption, by omega⟩, ⟨(hm_JH.of eV1 eV5 eV9 fx270 fx271 fx267 (fun j hj => (congrFun ge106 j).trans (hm_ub (by omega) hj)) (fun j hj => (congrFun ge145 j).trans (hm_ub (by omega) hj)) ((congrFun ge265 0).trans (hm_un (by decide))) (hq_rg hI (hr_2 hR) eV9 0 (by decide)).2), (hm_JJ.of (l := y94) eV1 eV5 eV9 fx270 fx271 fx267 (by omega) (by omega) (fun j hj => (congrFun ge106 j).trans (hm_un hj)) (fun j hj => (congrFun ge145 j).trans (hm_un hj)) (by rw [show g264 (1 : Int32).toNatClampNeg = _ from (congrFun ge265 _).trans hm_ue]; omega) (fun h9 => by rw [show g105 y94.toNatClampNeg = 5 from (congrFun ge106 _).trans hm_ue] at h9; exact absurd h9 (by decide)))⟩⟩ dX13_readLine_400
              · have c89 : (y85).toInt = (60 : Int) := hq_eqi.mp c89
                refine lv_aload_n hx hb dX13_readLine_102 rfl (lv_at hl 1 rfl) ?_
                refine lv_iconst (v := 4) hx hb dX13_readLine_103 (by decide) ?_
                have hl281 : (4 : Int32).toInt = 4 := by decide
                refine hp_callq (hp_runV (As := [.int (4)]) (rest := []) hx hb hml hown hts (t_X13_wrong l D cs B G  V58 n hP.1 q hR (mo) h_mo (4) ho64  (by omega) (by omega) (by omega) (by omega) (by omega) (by omega) (by omega) (by omega) ) hZ ho64 cv_X13_107 rfl rfl ⟨Nat.le_of_ble_eq_true rfl, Nat.le_of_ble_eq_true rfl⟩ rfl hl.1 rfl (Nat.le_of_ble_eq_true rfl) dX13_readLine_104 ⟨(Nat.le_of_ble_eq_true rfl), (Nat.le_of_ble_eq_true rfl)⟩) hZ (fun r275 V272 n273 _ _ hw274 hZ => ?_)
                obtain ⟨rfl, hq276, ⟨z278, z279, ho280⟩, hr277⟩ := hw274
                have hP := hP.trans hq276 (by intro g h; simp_all)
                have b282 := hq_rng z278
                have b283 := hq_rng z279
                subst hr277
                refine W.eq (g2 := F0 m 107 ls [.ref (q + 19)]) rfl ?_
                have fx284 : V272 (q + 10) = some (.inl (cs 1, 120, .inl (g2))) := (hq276.2 (q + 10) _ (hr_10 hR) rfl).trans ((hq62.2 (q + 10) _ (hr_10 hR) rfl).trans ((hq53.2 (q + 10) _ (hr_10 hR) rfl).trans ((hq44.2 (q + 10) _ (hr_10 hR) rfl).trans ((hq35.2 (q + 10) _ (hr_10 hR) rfl).trans ((hq26.2 (q + 10) _ (hr_10 hR) rfl).trans ((hq17.2 (q + 10) _ (hr_10 hR) rfl).trans (eV1)))))))
                have fx285 : V272 (q + 14) = some (.inl (cs 1, 120, .inl (g6))) := (hq276.2 (q + 14) _ (hr_14 hR) rfl).trans ((hq62.2 (q + 14) _ (hr_14 hR) rfl).trans ((hq53.2 (q + 14) _ (hr_14 hR) rfl).trans ((hq44.2 (q + 14) _ (hr_14 hR) rfl).trans ((hq35.2 (q + 14) _ (hr_14 hR) rfl).trans ((hq26.2 (q + 14) _ (hr_14 hR) rfl).trans ((hq17.2 (q + 14) _ (hr_14 hR) rfl).trans (eV5)))))))
                have fx286 : V272 (q + 2) = some (.inl (cs 1, 2, .inl (g10))) := (hq276.2 (q + 2) _ (hr_2 hR) rfl).trans (fx84)
                exact hq_athrow hx hb hnx hlocks hZ ⟨rfl, rfl, hP, ⟨m_fr, m_bh, m_hd, z278, z279, ho280, by assumption, by omega⟩, (hm_JH.of eV1 eV5 eV9 fx284 fx285 fx286 (fun j hj => rfl) (fun j hj => rfl) rfl (hq_rg hI (hr_2 hR) eV9 0 (by decide)).2)⟩ dX13_readLine_107
          · have c57 : ¬ (r52).toInt = (0 : Int) := fun h9 => c57 (hq_eqi.mpr h9)
            refine lv_iconst (v := 4) hx hb dX13_readLine_61 (by decide) ?_
            refine lv_goto (tgt := 79) hx hb dX13_readLine_62 (by decide) ?_
            refine lv_istore_n (lv' := [(1, .int (4)), (0, .ref (mo))]) hx hb dX13_readLine_79 rfl hl (by decide) rfl (fun ls hl => ?_)
            refine lv_iload_n hx hb dX13_readLine_80 rfl (lv_at hl 0 rfl) ?_
            refine lv_iconst (v := -1) hx hb dX13_readLine_81 (by decide) ?_
            refine lv_icmp_ne (tgt := 91) hx hb dX13_readLine_82 (by decide) (fun c287 => ?_) (fun c287 => absurd c287 (by decide))
            refine lv_aload_n hx hb dX13_readLine_91 rfl (lv_at hl 1 rfl) ?_
            refine hp_get (v := .ref (q + 2)) hx hb hts hown hZ ho55 fl_X13_10 rfl dX13_readLine_92 ?_
            refine lv_iconst (v := 1) hx hb dX13_readLine_95 (by decide) ?_
            have fx288 : V49 (q + 2) = some (.inl (cs 1, 2, .inl (g10))) := (hq53.2 (q + 2) _ (hr_2 hR) rfl).trans ((hq44.2 (q + 2) _ (hr_2 hR) rfl).trans ((hq35.2 (q + 2) _ (hr_2 hR) rfl).trans ((hq26.2 (q + 2) _ (hr_2 hR) rfl).trans ((hq17.2 (q + 2) _ (hr_2 hR) rfl).trans (eV9)))))
            refine hp_iald hx hb hZ fx288 (by unfold vp_in; decide) dX13_readLine_96 ?_
            refine lv_topi (fun y289 ey290 => ?_)
            have b292 : (y289).toInt = ((g10) (1 : Int32).toNatClampNeg).toInt := by rw [ey290]
            have b291 : hq_ir (hq_lo 8) (hq_hi 8) y289 := by rw [ey290]; exact hf12 _ (by decide)
            have b291 : 0 ≤ (y289).toInt ∧ (y289).toInt ≤ 60 := b291
            refine lv_bipush (v := 60) hx hb dX13_readLine_97 (by decide) ?_
            refine lv_icmp_ne (tgt := 108) hx hb dX13_readLine_99 (by decide) (fun c293 => ?_) (fun c293 => ?_)
            · have c293 : ¬ (y289).toInt = (60 : Int) := fun h9 => c293 (hq_eqi.mpr h9)
              refine lv_bipush (v := 60) hx hb dX13_readLine_108 (by decide) ?_
              refine lv_aload_n hx hb dX13_readLine_110 rfl (lv_at hl 1 rfl) ?_
              refine hp_get (v := .ref (q + 2)) hx hb hts hown hZ ho55 fl_X13_10 rfl dX13_readLine_111 ?_
              refine lv_iconst (v := 1) hx hb dX13_readLine_114 (by decide) ?_
              refine hp_iald hx hb hZ fx288 (by unfold vp_in; decide) dX13_readLine_115 ?_
              refine lv_topi (fun y294 ey295 => ?_)
              have b297 : (y294).toInt = ((g10) (1 : Int32).toNatClampNeg).toInt := by rw [ey295]
              have b296 : hq_ir (hq_lo 8) (hq_hi 8) y294 := by rw [ey295]; exact hf12 _ (by decide)
              have b296 : 0 ≤ (y294).toInt ∧ (y294).toInt ≤ 60 := b296
              refine lv_iadd hx hb dX13_readLine_116 ?_
              refine lv_topi (fun y298 ey299 => ?_)
              obtain ⟨k300, hk301, b302, b303⟩ := hq_add (60) (y294)
              rw [← ey299] at hk301 b302 b303
              have hk301 : (y298).toInt = (60 : Int) + (y294).toInt + k300 * 4294967296 := hk301
              obtain rfl : k300 = 0 := by omega
              refine lv_istore_n (lv' := [(2, .int (y298)), (1, .int (4)), (0, .ref (mo))]) hx hb dX13_readLine_117 rfl hl (by decide) rfl (fun ls hl => ?_)
              refine lv_aload_n hx hb dX13_readLine_118 rfl (lv_at hl 2 rfl) ?_
              refine hp_get (v := .ref (q + 10)) hx hb hts hown hZ ho55 fl_X13_29 rfl dX13_readLine_119 ?_
              refine lv_iload_n hx hb dX13_readLine_122 rfl (lv_at hl 0 rfl) ?_
              refine lv_iload_n hx hb dX13_readLine_123 rfl (lv_at hl 1 rfl) ?_
              have fx304 : V49 (q + 10) = some (.inl (cs 1, 120, .inl (g2))) := (hq53.2 (q + 10) _ (hr_10 hR) rfl).trans ((hq44.2 (q + 10) _ (hr_10 hR) rfl).trans ((hq35.2 (q + 10) _ (hr_10 hR) rfl).trans ((hq26.2 (q + 10) _ (hr_10 hR) rfl).trans ((hq17.2 (q + 10) _ (hr_10 hR) rfl).trans (eV1)))))
              refine hp_iast hx hb hZ fx304 (hq_in (by omega) (by omega)) dX13_readLine_124 (fun V305 _ _ e306 o307 hZ => ?_)
              have e306 : V305 (q + 10) = some (.inl (cs 1, 120, .inl (upd (g2) ((y298 : Int32).toNatClampNeg) (4)))) := e306
              have hl308 : (4 : Int32).toInt = 4 := by decide
              have hP := hP.put (hr_10 hR) e306 o307 (hq_c21 (by omega) (hq_upd hf4 (hq_rng _))) rfl
              obtain ⟨g309, ge310⟩ : ∃ g9 : Nat → Int32, g9 = upd (g2) ((y298 : Int32).toNatClampNeg) (4) := ⟨_, rfl⟩
              have fx312 : V305 (q + 10) = some (.inl (cs 1, 120, .inl (g309))) := by rw [ge310]; exact e306
              have hf311 := hq_rg hP.1 (hr_10 hR) fx312
              have b313 : (g309 (y298 : Int32).toNatClampNeg).toInt = (4 : Int32).toInt := congrArg Int32.toInt ((congrFun ge310 _).trans hm_ue)
              have b314 : (4 : Int32).toInt = 4 := by decide
              refine lv_aload_n hx hb dX13_readLine_125 rfl (lv_at hl 2 rfl) ?_
              have fx315 : V305 (mo) = some (.inr (13, hm_o q (m_tp) (m_sz) (m_fr) (m_bh) (m_hd) (m_ft) (m_fa) (m_le) (m_fo) (m_as) (m_fd) (m_bc) (m_bg) (m_bs) (m_be) (m_b0) (m_b1) (m_cm) (m_hc))) := (o307 (mo) (hq_tne h_mo (hr_10 hR) (by simp))).trans (ho55)
              refine hp_get (v := .ref (q + 11)) hx hb hts hown hZ fx315 fl_X13_32 rfl dX13_readLine_126 ?_
              refine lv_iload_n hx hb dX13_readLine_129 rfl (lv_at hl 0 rfl) ?_
              refine lv_iconst (v := -1) hx hb dX13_readLine_130 (by decide) ?_
              obtain ⟨hN318, g317, eV316, hf319⟩ := hq_o21 hP.1 (hr_11 hR)
              refine hp_iast hx hb hZ eV316 (hq_in (by omega) (by omega)) dX13_readLine_131 (fun V320 _ _ e321 o322 hZ => ?_)
              have e321 : V320 (q + 11) = some (.inl (cs 1, 120, .inl (upd (g317) ((y298 : Int32).toNatClampNeg) (-1)))) := e321
              have hl323 : (-1 : Int32).toInt = -1 := by decide
              have hP := hP.put (hr_11 hR) e321 o322 (hq_c21 (by omega) (hq_upd hf319 (hq_rng _))) rfl
              refine lv_aload_n hx hb dX13_readLine_132 rfl (lv_at hl 2 rfl) ?_
              have fx324 : V320 (mo) = some (.inr (13, hm_o q (m_tp) (m_sz) (m_fr) (m_bh) (m_hd) (m_ft) (m_fa) (m_le) (m_fo) (m_as) (m_fd) (m_bc) (m_bg) (m_bs) (m_be) (m_b0) (m_b1) (m_cm) (m_hc))) := (o322 (mo) (hq_tne h_mo (hr_11 hR) (by simp))).trans (fx315)
              refine hp_get (v := .ref (q + 12)) hx hb hts hown hZ fx324 fl_X13_35 rfl dX13_readLine_133 ?_
              refine lv_iload_n hx hb dX13_readLine_136 rfl (lv_at hl 0 rfl) ?_
              refine lv_iconst (v := -1) hx hb dX13_readLine_137 (by decide) ?_
              obtain ⟨hN327, g326, eV325, hf328⟩ := hq_o21 hP.1 (hr_12 hR)
              refine hp_iast hx hb hZ eV325 (hq_in (by omega) (by omega)) dX13_readLine_138 (fun V329 _ _ e330 o331 hZ => ?_)
              have e330 : V329 (q + 12) = some (.inl (cs 1, 120, .inl (upd (g326) ((y298 : Int32).toNatClampNeg) (-1)))) := e330
              have hl332 : (-1 : Int32).toInt = -1 := by decide
              have hP := hP.put (hr_12 hR) e330 o331 (hq_c21 (by omega) (hq_upd hf328 (hq_rng _))) rfl
              refine lv_aload_n hx hb dX13_readLine_139 rfl (lv_at hl 2 rfl) ?_
              have fx333 : V329 (mo) = some (.inr (13, hm_o q (m_tp) (m_sz) (m_fr) (m_bh) (m_hd) (m_ft) (m_fa) (m_le) (m_fo) (m_as) (m_fd) (m_bc) (m_bg) (m_bs) (m_be) (m_b0) (m_b1) (m_cm) (m_hc))) := (o331 (mo) (hq_tne h_mo (hr_12 hR) (by simp))).trans (fx324)
              refine hp_get (v := .ref (q + 13)) hx hb hts hown hZ fx333 fl_X13_38 rfl dX13_readLine_140 ?_
              refine lv_iload_n hx hb dX13_readLine_143 rfl (lv_at hl 0 rfl) ?_
              refine lv_iconst (v := -1) hx hb dX13_readLine_144 (by decide) ?_
              obtain ⟨hN336, g335, eV334, hf337⟩ := hq_o21 hP.1 (hr_13 hR)
              refine hp_iast hx hb hZ eV334 (hq_in (by omega) (by omega)) dX13_readLine_145 (fun V338 _ _ e339 o340 hZ => ?_)
              have e339 : V338 (q + 13) = some (.inl (cs 1, 120, .inl (upd (g335) ((y298 : Int32).toNatClampNeg) (-1)))) := e339
              have hl341 : (-1 : Int32).toInt = -1 := by decide
              have hP := hP.put (hr_13 hR) e339 o340 (hq_c21 (by omega) (hq_upd hf337 (hq_rng _))) rfl
              refine lv_aload_n hx hb dX13_readLine_146 rfl (lv_at hl 2 rfl) ?_
              have fx342 : V338 (mo) = some (.inr (13, hm_o q (m_tp) (m_sz) (m_fr) (m_bh) (m_hd) (m_ft) (m_fa) (m_le) (m_fo) (m_as) (m_fd) (m_bc) (m_bg) (m_bs) (m_be) (m_b0) (m_b1) (m_cm) (m_hc))) := (o340 (mo) (hq_tne h_mo (hr_13 hR) (by simp))).trans (fx333)
              refine hp_get (v := .ref (q + 14)) hx hb hts hown hZ fx342 fl_X13_41 rfl dX13_readLine_147 ?_
              refine lv_iload_n hx hb dX13_readLine_150 rfl (lv_at hl 0 rfl) ?_
              refine lv_iconst (v := 0) hx hb dX13_readLine_151 (by decide) ?_
              have fx343 : V338 (q + 14) = some (.inl (cs 1, 120, .inl (g6))) := (o340 (q + 14) (hq_ne q 14 13 (by decide))).trans ((o331 (q + 14) (hq_ne q 14 12 (by decide))).trans ((o322 (q + 14) (hq_ne q 14 11 (by decide))).trans ((o307 (q + 14) (hq_ne q 14 10 (by decide))).trans ((hq53.2 (q + 14) _ (hr_14 hR) rfl).trans ((hq44.2 (q + 14) _ (hr_14 hR) rfl).trans ((hq35.2 (q + 14) _ (hr_14 hR) rfl).trans ((hq26.2 (q + 14) _ (hr_14 hR) rfl).trans ((hq17.2 (q + 14) _ (hr_14 hR) rfl).trans (eV5)))))))))
              refine hp_iast hx hb hZ fx343 (hq_in (by omega) (by omega)) dX13_readLine_152 (fun V344 _ _ e345 o346 hZ => ?_)
              have e345 : V344 (q + 14) = some (.inl (cs 1, 120, .inl (upd (g6) ((y298 : Int32).toNatClampNeg) (0)))) := e345
              have hl347 : (0 : Int32).toInt = 0 := by decide
              have hP := hP.put (hr_14 hR) e345 o346 (hq_c21 (by omega) (hq_upd hf8 (show 0 ≤ _ ∧ _ ≤ 8 by constructor <;> omega))) rfl
              obtain ⟨g348, ge349⟩ : ∃ g9 : Nat → Int32, g9 = upd (g6) ((y298 : Int32).toNatClampNeg) (0) := ⟨_, rfl⟩
              have fx351 : V344 (q + 14) = some (.inl (cs 1, 120, .inl (g348))) := by rw [ge349]; exact e345
              have hf350 := hq_rg hP.1 (hr_14 hR) fx351
              have b352 : (g348 (y298 : Int32).toNatClampNeg).toInt = (0 : Int32).toInt := congrArg Int32.toInt ((congrFun ge349 _).trans hm_ue)
              have b353 : (0 : Int32).toInt = 0 := by decide
              refine lv_aload_n hx hb dX13_readLine_153 rfl (lv_at hl 2 rfl) ?_
              have fx354 : V344 (mo) = some (.inr (13, hm_o q (m_tp) (m_sz) (m_fr) (m_bh) (m_hd) (m_ft) (m_fa) (m_le) (m_fo) (m_as) (m_fd) (m_bc) (m_bg) (m_bs) (m_be) (m_b0) (m_b1) (m_cm) (m_hc))) := (o346 (mo) (hq_tne h_mo (hr_14 hR) (by simp))).trans (fx342)
              refine hp_get (v := .ref (q + 15)) hx hb hts hown hZ fx354 fl_X13_44 rfl dX13_readLine_154 ?_
              refine lv_iload_n hx hb dX13_readLine_157 rfl (lv_at hl 0 rfl) ?_
              refine lv_iconst (v := 0) hx hb dX13_readLine_158 (by decide) ?_
              obtain ⟨hN357, g356, eV355, hf358⟩ := hq_o21 hP.1 (hr_15 hR)
              refine hp_iast hx hb hZ eV355 (hq_in (by omega) (by omega)) dX13_readLine_159 (fun V359 _ _ e360 o361 hZ => ?_)
              have e360 : V359 (q + 15) = some (.inl (cs 1, 120, .inl (upd (g356) ((y298 : Int32).toNatClampNeg) (0)))) := e360
              have hl362 : (0 : Int32).toInt = 0 := by decide
              have hP := hP.put (hr_15 hR) e360 o361 (hq_c21 (by omega) (hq_upd hf358 (show 0 ≤ _ ∧ _ ≤ 8 by constructor <;> omega))) rfl
              refine lv_aload_n hx hb dX13_readLine_160 rfl (lv_at hl 2 rfl) ?_
              have fx363 : V359 (mo) = some (.inr (13, hm_o q (m_tp) (m_sz) (m_fr) (m_bh) (m_hd) (m_ft) (m_fa) (m_le) (m_fo) (m_as) (m_fd) (m_bc) (m_bg) (m_bs) (m_be) (m_b0) (m_b1) (m_cm) (m_hc))) := (o361 (mo) (hq_tne h_mo (hr_15 hR) (by simp))).trans (fx354)
              refine hp_get (v := .ref (q + 16)) hx hb hts hown hZ fx363 fl_X13_47 rfl dX13_readLine_161 ?_
              refine lv_iload_n hx hb dX13_readLine_164 rfl (lv_at hl 0 rfl) ?_
              refine lv_iconst (v := 0) hx hb dX13_readLine_165 (by decide) ?_
              obtain ⟨hN366, g365, eV364, hf367⟩ := hq_o21 hP.1 (hr_16 hR)
              refine hp_iast hx hb hZ eV364 (hq_in (by omega) (by omega)) dX13_readLine_166 (fun V368 _ _ e369 o370 hZ => ?_)
              have e369 : V368 (q + 16) = some (.inl (cs 1, 120, .inl (upd (g365) ((y298 : Int32).toNatClampNeg) (0)))) := e369
              have hl371 : (0 : Int32).toInt = 0 := by decide
              have hP := hP.put (hr_16 hR) e369 o370 (hq_c21 (by omega) (hq_upd hf367 (show 0 ≤ _ ∧ _ ≤ 29 by constructor <;> omega))) rfl
              refine lv_aload_n hx hb dX13_readLine_167 rfl (lv_at hl 2 rfl) ?_
              have fx378 : V368 (mo) = some (.inr (13, hm_o q (m_tp) (m_sz) (m_fr) (m_bh) (m_hd) (m_ft) (m_fa) (m_le) (m_fo) (m_as) (m_fd) (m_bc) (m_bg) (m_bs) (m_be) (m_b0) (m_b1) (m_cm) (m_hc))) := (o370 (mo) (hq_tne h_mo (hr_16 hR) (by simp))).trans (fx363)
              refine hp_callv (hp_runV (As := []) (rest := []) hx hb hml hown hts (t_X13_scan l D cs B G  V368 n hP.1 q hR (mo) h_mo fx378  (by omega) (by omega) (by omega) (by omega) (by omega) (by omega) (by omega) (by omega) (hm_SC.s0 (by assumption)) (hm_SC.s1 (by assumption) (by first | omega | (have h8 := hm_Is.hd (by assumption) (by omega); omega)))) hZ fx378 cv_X13_111 rfl rfl ⟨Nat.le_of_ble_eq_true rfl, Nat.le_of_ble_eq_true rfl⟩ rfl hl.1 rfl (Nat.le_of_ble_eq_true rfl) dX13_readLine_168 ⟨(Nat.le_of_ble_eq_true rfl), (Nat.le_of_ble_eq_true rfl)⟩) hZ (fun V372 n373 _ _ hw374 hZ => ?_)
              obtain ⟨rfl, hq376, ⟨z379, z380, z381, ho382, hi383, hi384, hi385⟩⟩ := hw374
              have hP := hP.trans hq376 (by intro g h; simp_all)
              have b386 := hq_rng z379
              have b387 := hq_rng z380
              have b388 := hq_rng z381
              refine lv_iload_n hx hb dX13_readLine_171 rfl (lv_at hl 1 rfl) ?_
              refine lv_iconst (v := 4) hx hb dX13_readLine_172 (by decide) ?_
              refine lv_icmp_eq (tgt := 181) hx hb dX13_readLine_173 (by decide) (fun c389 => ?_) (fun c389 => absurd (by decide) c389)
              refine lv_aload_n hx hb dX13_readLine_181 rfl (lv_at hl 2 rfl) ?_
              refine hp_get (v := .ref (q + 11)) hx hb hts hown hZ ho382 fl_X13_32 rfl dX13_readLine_182 ?_
              refine lv_iload_n hx hb dX13_readLine_185 rfl (lv_at hl 0 rfl) ?_
              refine lv_aload_n hx hb dX13_readLine_186 rfl (lv_at hl 2 rfl) ?_
              have fx404 : V372 (q + 10) = some (.inl (cs 1, 120, .inl (g309))) := (hq376.2 (q + 10) _ (hr_10 hR) rfl).trans ((o370 (q + 10) (hq_ne q 10 16 (by decide))).trans ((o361 (q + 10) (hq_ne q 10 15 (by decide))).trans ((o346 (q + 10) (hq_ne q 10 14 (by decide))).trans ((o340 (q + 10) (hq_ne q 10 13 (by decide))).trans ((o331 (q + 10) (hq_ne q 10 12 (by decide))).trans ((o322 (q + 10) (hq_ne q 10 11 (by decide))).trans (fx312)))))))
              have fx405 : V372 (q + 14) = some (.inl (cs 1, 120, .inl (g348))) := (hq376.2 (q + 14) _ (hr_14 hR) rfl).trans ((o370 (q + 14) (hq_ne q 14 16 (by decide))).trans ((o361 (q + 14) (hq_ne q 14 15 (by decide))).trans (fx351)))
              have fx406 : V372 (q + 2) = some (.inl (cs 1, 2, .inl (g10))) := (hq376.2 (q + 2) _ (hr_2 hR) rfl).trans ((o370 (q + 2) (hq_ne q 2 16 (by decide))).trans ((o361 (q + 2) (hq_ne q 2 15 (by decide))).trans ((o346 (q + 2) (hq_ne q 2 14 (by decide))).trans ((o340 (q + 2) (hq_ne q 2 13 (by decide))).trans ((o331 (q + 2) (hq_ne q 2 12 (by decide))).trans ((o322 (q + 2) (hq_ne q 2 11 (by decide))).trans ((o307 (q + 2) (hq_ne q 2 10 (by decide))).trans (fx288))))))))
              refine hq_callx (hq_runV (As := []) (rest := [.int (y298), .ref (q + 11)]) hx hb hml hown hts (t_X13_takeVerb l D cs B G  V372 n hP.1 q hR (mo) h_mo ho382  (by omega) (by omega) (by omega) (by omega) (by omega) (by omega) (by omega) (by omega) (by assumption) ) hZ ho382 cv_X13_182 rfl rfl ⟨Nat.le_of_ble_eq_true rfl, Nat.le_of_ble_eq_true rfl⟩ rfl hl.1 rfl (Nat.le_of_ble_eq_true rfl) dX13_readLine_187 ⟨(Nat.le_of_ble_eq_true rfl), (Nat.le_of_ble_eq_true rfl)⟩) hZ hnx hlocks (by rintro x9 V9 n9 ⟨rfl, rfl, hq9, ⟨z396x, z397x, z398x, z399x, z400x, hox0, hix00, hix01⟩⟩; have hbxz396 := hq_rng z396x; have hbxz397 := hq_rng z397x; have hbxz398 := hq_rng z398x; have hbxz399 := hq_rng z399x; have hbxz400 := hq_rng z400x; exact ⟨rfl, rfl, hP.trans hq9 (by intro g h; simp_all), ⟨z396x, z397x, z398x, z399x, z400x, hox0, by assumption, by omega⟩, ((hm_JH.of eV1 eV5 eV9 fx404 fx405 fx406 (fun j hj => (congrFun ge310 j).trans (hm_ub (by omega) hj)) (fun j hj => (congrFun ge349 j).trans (hm_ub (by omega) hj)) rfl (hq_rg hI (hr_2 hR) eV9 0 (by decide)).2)).keep hR (fun x t hx hg => hq9.2 x t hx (by simp [hg]))⟩) (fun v9 V390 n391 _ _ hw392 hZ => ?_)
              obtain ⟨r393, rfl, rfl, hq394, ⟨z396, z397, z398, z399, z400, ho401, hi402, hi403⟩, hr395⟩ := hw392
              refine W.eq (g2 := F0 m 190 ls [.int (r393), .int (y298), .ref (q + 11)]) rfl ?_
              have hP := hP.trans hq394 (by intro g h; simp_all)
              have b407 := hq_rng z396
              have b408 := hq_rng z397
              have b409 := hq_rng z398
              have b410 := hq_rng z399
              have b411 := hq_rng z400
              have b412 := hq_rng r393
              obtain ⟨hN415, g414, eV413, hf416⟩ := hq_o21 hP.1 (hr_11 hR)
              refine hp_iast hx hb hZ eV413 (hq_in (by omega) (by omega)) dX13_readLine_190 (fun V417 _ _ e418 o419 hZ => ?_)
              have e418 : V417 (q + 11) = some (.inl (cs 1, 120, .inl (upd (g414) ((y298 : Int32).toNatClampNeg) (r393)))) := e418
              have hP := hP.put (hr_11 hR) e418 o419 (hq_c21 (by omega) (hq_upd hf416 (hq_rng _))) rfl
              refine lv_goto (tgt := 204) hx hb dX13_readLine_191 (by decide) ?_
              refine lv_iload_n hx hb dX13_readLine_204 rfl (lv_at hl 1 rfl) ?_
              refine lv_iconst (v := 2) hx hb dX13_readLine_205 (by decide) ?_
              refine lv_icmp_eq (tgt := 219) hx hb dX13_readLine_206 (by decide) (fun c420 => absurd c420 (by decide)) (fun c420 => ?_)
              refine lv_iload_n hx hb dX13_readLine_209 rfl (lv_at hl 1 rfl) ?_
              refine lv_iconst (v := 3) hx hb dX13_readLine_210 (by decide) ?_
              refine lv_icmp_eq (tgt := 219) hx hb dX13_readLine_211 (by decide) (fun c421 => absurd c421 (by decide)) (fun c421 => ?_)
              refine lv_aload_n hx hb dX13_readLine_214 rfl (lv_at hl 2 rfl) ?_
              refine lv_iload_n hx hb dX13_readLine_215 rfl (lv_at hl 0 rfl) ?_
              have fx428 : V417 (mo) = some (.inr (13, hm_o q (m_tp) (m_sz) (z396) (z397) (z398) (z399) (z400) (m_le) (m_fo) (m_as) (m_fd) (m_bc) (m_bg) (m_bs) (m_be) (m_b0) (m_b1) (m_cm) (m_hc))) := (o419 (mo) (hq_tne h_mo (hr_11 hR) (by simp))).trans (ho401)
              have fx437 : V417 (q + 10) = some (.inl (cs 1, 120, .inl (g309))) := (o419 (q + 10) (hq_ne q 10 11 (by decide))).trans ((hq394.2 (q + 10) _ (hr_10 hR) rfl).trans (fx404))
              have fx438 : V417 (q + 14) = some (.inl (cs 1, 120, .inl (g348))) := (o419 (q + 14) (hq_ne q 14 11 (by decide))).trans ((hq394.2 (q + 14) _ (hr_14 hR) rfl).trans (fx405))
              have fx439 : V417 (q + 2) = some (.inl (cs 1, 2, .inl (g10))) := (o419 (q + 2) (hq_ne q 2 11 (by decide))).trans ((hq394.2 (q + 2) _ (hr_2 hR) rfl).trans (fx406))
              refine hq_callx (hq_runV (As := [.int (y298)]) (rest := []) hx hb hml hown hts (t_X13_readSlot l D cs B G  V417 n hP.1 q hR (mo) h_mo (y298) fx428  (by omega) (by omega) (by omega) (by omega) (by omega) (by omega) (by omega) (by omega) (by assumption) (by omega) (by omega)) hZ fx428 cv_X13_189 rfl rfl ⟨Nat.le_of_ble_eq_true rfl, Nat.le_of_ble_eq_true rfl⟩ rfl hl.1 rfl (Nat.le_of_ble_eq_true rfl) dX13_readLine_216 ⟨(Nat.le_of_ble_eq_true rfl), (Nat.le_of_ble_eq_true rfl)⟩) hZ hnx hlocks (by rintro x9 V9 n9 ⟨rfl, rfl, hq9, ⟨z429x, z430x, z431x, z432x, z433x, hox0, hix00, hix01⟩⟩; have hbxz429 := hq_rng z429x; have hbxz430 := hq_rng z430x; have hbxz431 := hq_rng z431x; have hbxz432 := hq_rng z432x; have hbxz433 := hq_rng z433x; exact ⟨rfl, rfl, hP.trans hq9 (by intro g h; simp_all), ⟨z429x, z430x, z431x, z432x, z433x, hox0, by assumption, by omega⟩, ((hm_JH.of eV1 eV5 eV9 fx437 fx438 fx439 (fun j hj => (congrFun ge310 j).trans (hm_ub (by omega) hj)) (fun j hj => (congrFun ge349 j).trans (hm_ub (by omega) hj)) rfl (hq_rg hI (hr_2 hR) eV9 0 (by decide)).2)).keep hR (fun x t hx hg => hq9.2 x t hx (by simp [hg]))⟩) (fun v9 V422 n423 _ _ hw424 hZ => ?_)
              obtain ⟨rfl, rfl, hq426, ⟨z429, z430, z431, z432, z433, ho434, hi435, hi436⟩⟩ := hw424
              refine W.eq (g2 := F0 m 219 ls []) rfl ?_
              have hP := hP.trans hq426 (by intro g h; simp_all)
              have b440 := hq_rng z429
              have b441 := hq_rng z430
              have b442 := hq_rng z431
              have b443 := hq_rng z432
              have b444 := hq_rng z433
              refine lv_iload_n hx hb dX13_readLine_219 rfl (lv_at hl 1 rfl) ?_
              refine lv_iconst (v := 3) hx hb dX13_readLine_220 (by decide) ?_
              refine lv_icmp_ne (tgt := 229) hx hb dX13_readLine_221 (by decide) (fun c445 => ?_) (fun c445 => absurd c445 (by decide))
              refine lv_iload_n hx hb dX13_readLine_229 rfl (lv_at hl 1 rfl) ?_
              refine lv_if_eq (tgt := 248) hx hb dX13_readLine_230 (by decide) (fun c446 => absurd c446 (by decide)) (fun c446 => ?_)
              refine lv_iload_n hx hb dX13_readLine_233 rfl (lv_at hl 1 rfl) ?_
              refine lv_iconst (v := 1) hx hb dX13_readLine_234 (by decide) ?_
              refine lv_icmp_eq (tgt := 248) hx hb dX13_readLine_235 (by decide) (fun c447 => absurd c447 (by decide)) (fun c447 => ?_)
              refine lv_iload_n hx hb dX13_readLine_238 rfl (lv_at hl 1 rfl) ?_
              refine lv_iconst (v := 2) hx hb dX13_readLine_239 (by decide) ?_
              refine lv_icmp_eq (tgt := 248) hx hb dX13_readLine_240 (by decide) (fun c448 => absurd c448 (by decide)) (fun c448 => ?_)
              refine lv_iload_n hx hb dX13_readLine_243 rfl (lv_at hl 1 rfl) ?_
              refine lv_iconst (v := 4) hx hb dX13_readLine_244 (by decide) ?_
              refine lv_icmp_ne (tgt := 321) hx hb dX13_readLine_245 (by decide) (fun c449 => absurd (by decide) c449) (fun c449 => ?_)
              refine lv_aload_n hx hb dX13_readLine_248 rfl (lv_at hl 2 rfl) ?_
              refine hp_get (v := .int (z431)) hx hb hts hown hZ ho434 fl_X13_83 rfl dX13_readLine_249 ?_
              refine lv_iconst (v := 3) hx hb dX13_readLine_252 (by decide) ?_
              refine lv_icmp_eq (tgt := 262) hx hb dX13_readLine_253 (by decide) (fun c450 => ?_) (fun c450 => ?_)
              · have c450 : (z431).toInt = (3 : Int) := hq_eqi.mp c450
                refine lv_iload_n hx hb dX13_readLine_262 rfl (lv_at hl 1 rfl) ?_
                refine lv_iconst (v := 4) hx hb dX13_readLine_263 (by decide) ?_
                refine lv_icmp_ne (tgt := 282) hx hb dX13_readLine_264 (by decide) (fun c451 => absurd (by decide) c451) (fun c451 => ?_)
                refine lv_aload_n hx hb dX13_readLine_267 rfl (lv_at hl 2 rfl) ?_
                refine lv_iload_n hx hb dX13_readLine_268 rfl (lv_at hl 0 rfl) ?_
                refine hp_calli (hp_runV (As := [.int (y298)]) (rest := []) hx hb hml hown hts (t_X13_alike l D cs B G  V422 n hP.1 q hR (mo) h_mo (y298) ho434  (by omega) (by omega) (by omega) (by omega) (by omega) (by omega) (by omega) (by omega) (by assumption) (by omega) (by omega)) hZ ho434 cv_X13_195 rfl rfl ⟨Nat.le_of_ble_eq_true rfl, Nat.le_of_ble_eq_true rfl⟩ rfl hl.1 rfl (Nat.le_of_ble_eq_true rfl) dX13_readLine_269 ⟨(Nat.le_of_ble_eq_true rfl), (Nat.le_of_ble_eq_true rfl)⟩) hZ (fun r455 V452 n453 _ _ hw454 hZ => ?_)
                obtain ⟨rfl, hq456, ho458, hr457⟩ := hw454
                have hP := hP.trans hq456 (fun _ _ => rfl)
                have b459 := hq_rng r455
                refine lv_iconst (v := 2) hx hb dX13_readLine_272 (by decide) ?_
                refine lv_icmp_lt (tgt := 282) hx hb dX13_readLine_273 (by decide) (fun c460 => ?_) (fun c460 => ?_)
                · have c460 : (r455).toInt < (2 : Int) := hq_lti.mp c460
                  refine lv_iload_n hx hb dX13_readLine_282 rfl (lv_at hl 1 rfl) ?_
                  refine lv_iconst (v := 1) hx hb dX13_readLine_283 (by decide) ?_
                  refine lv_icmp_eq (tgt := 306) hx hb dX13_readLine_284 (by decide) (fun c461 => absurd c461 (by decide)) (fun c461 => ?_)
                  have h3b := hm_SC.a3 (by assumption : hm_SC m_sz z429 z430 z431) (by omega)
                  refine lv_aload_n hx hb dX13_readLine_287 rfl (lv_at hl 2 rfl) ?_
                  refine hp_get (v := .int (z430)) hx hb hts hown hZ ho458 fl_X13_76 rfl dX13_readLine_288 ?_
                  refine lv_aload_n hx hb dX13_readLine_291 rfl (lv_at hl 2 rfl) ?_
                  refine hp_get (v := .int (z429)) hx hb hts hown hZ ho458 fl_X13_60 rfl dX13_readLine_292 ?_
                  refine lv_isub hx hb dX13_readLine_295 ?_
                  refine lv_topi (fun y462 ey463 => ?_)
                  obtain ⟨k464, hk465, b466, b467⟩ := hq_sub (z430) (z429)
                  rw [← ey463] at hk465 b466 b467
                  have hk465 : (y462).toInt = (z430).toInt - (z429).toInt + k464 * 4294967296 := hk465
                  obtain rfl : k464 = 0 := by omega
                  refine lv_iconst (v := 2) hx hb dX13_readLine_296 (by decide) ?_
                  refine lv_icmp_ne (tgt := 306) hx hb dX13_readLine_297 (by decide) (fun c468 => ?_) (fun c468 => ?_)
                  · have c468 : ¬ (y462).toInt = (2 : Int) := fun h9 => c468 (hq_eqi.mpr h9)
                    refine lv_aload_n hx hb dX13_readLine_306 rfl (lv_at hl 2 rfl) ?_
                    refine hp_get (v := .ref (q + 14)) hx hb hts hown hZ ho458 fl_X13_41 rfl dX13_readLine_307 ?_
                    refine lv_iload_n hx hb dX13_readLine_310 rfl (lv_at hl 0 rfl) ?_
                    refine lv_aload_n hx hb dX13_readLine_311 rfl (lv_at hl 2 rfl) ?_
                    refine lv_aload_n hx hb dX13_readLine_312 rfl (lv_at hl 2 rfl) ?_
                    refine hp_get (v := .ref (q + 5)) hx hb hts hown hZ ho458 fl_X13_23 rfl dX13_readLine_313 ?_
                    refine lv_iload_n hx hb dX13_readLine_316 rfl (lv_at hl 0 rfl) ?_
                    have h3a := hm_SC.a3 (by assumption : hm_SC m_sz z429 z430 z431) (by omega)
                    refine hp_calli (hp_runV (As := [.ref (q + 5), .int (y298)]) (rest := [.int (y298), .ref (q + 14)]) hx hb hml hown hts (t_X13_takeLetters l D cs B G  V452 n hP.1 q hR (mo) h_mo (q + 5) (hr_5 hR) (y298) ho458  (by omega) (by omega) (by omega) (by omega) (by omega) (by omega) (by omega) (by omega) (by assumption) (by omega) (by omega) (by omega)) hZ ho458 cv_X13_198 rfl rfl ⟨Nat.le_of_ble_eq_true rfl, Nat.le_of_ble_eq_true rfl⟩ rfl hl.1 rfl (Nat.le_of_ble_eq_true rfl) dX13_readLine_317 ⟨(Nat.le_of_ble_eq_true rfl), (Nat.le_of_ble_eq_true rfl)⟩) hZ (fun r472 V469 n470 _ _ hw471 hZ => ?_)
                    obtain ⟨rfl, hq473, ⟨z475, z476, z477, ho478, hi479, hi480⟩, hr474⟩ := hw471
                    have hP := hP.trans hq473 (by intro g h; simp_all)
                    have b481 := hq_rng z475
                    have b482 := hq_rng z476
                    have b483 := hq_rng z477
                    have b484 := hq_rng r472
                    have fx485 : V469 (q + 14) = some (.inl (cs 1, 120, .inl (g348))) := (hq473.2 (q + 14) _ (hr_14 hR) rfl).trans ((hq456.2 (q + 14) _ (hr_14 hR) rfl).trans ((hq426.2 (q + 14) _ (hr_14 hR) rfl).trans (fx438)))
                    refine hp_iast hx hb hZ fx485 (hq_in (by omega) (by omega)) dX13_readLine_320 (fun V486 _ _ e487 o488 hZ => ?_)
                    have e487 : V486 (q + 14) = some (.inl (cs 1, 120, .inl (upd (g348) ((y298 : Int32).toNatClampNeg) (r472)))) := e487
                    have hP := hP.put (hr_14 hR) e487 o488 (hq_c21 (by omega) (hq_upd hf350 (show 0 ≤ _ ∧ _ ≤ 8 by constructor <;> omega))) rfl
                    obtain ⟨g489, ge490⟩ : ∃ g9 : Nat → Int32, g9 = upd (g348) ((y298 : Int32).toNatClampNeg) (r472) := ⟨_, rfl⟩
                    have fx492 : V486 (q + 14) = some (.inl (cs 1, 120, .inl (g489))) := by rw [ge490]; exact e487
                    have hf491 := hq_rg hP.1 (hr_14 hR) fx492
                    have b493 : (g489 (y298 : Int32).toNatClampNeg).toInt = (r472 : Int32).toInt := congrArg Int32.toInt ((congrFun ge490 _).trans hm_ue)
                    refine lv_iload_n hx hb dX13_readLine_321 rfl (lv_at hl 1 rfl) ?_
                    refine lv_if_eq (tgt := 330) hx hb dX13_readLine_322 (by decide) (fun c494 => absurd c494 (by decide)) (fun c494 => ?_)
                    refine lv_iload_n hx hb dX13_readLine_325 rfl (lv_at hl 1 rfl) ?_
                    refine lv_iconst (v := 2) hx hb dX13_readLine_326 (by decide) ?_
                    refine lv_icmp_ne (tgt := 365) hx hb dX13_readLine_327 (by decide) (fun c495 => ?_) (fun c495 => absurd c495 (by decide))
                    refine lv_iload_n hx hb dX13_readLine_365 rfl (lv_at hl 1 rfl) ?_
                    refine lv_iconst (v := 2) hx hb dX13_readLine_366 (by decide) ?_
                    refine lv_icmp_ne (tgt := 390) hx hb dX13_readLine_367 (by decide) (fun c496 => ?_) (fun c496 => absurd c496 (by decide))
                    refine lv_aload_n hx hb dX13_readLine_390 rfl (lv_at hl 2 rfl) ?_
                    have fx497 : V486 (mo) = some (.inr (13, hm_o q (m_tp) (m_sz) (z475) (z476) (z477) (z432) (z433) (m_le) (m_fo) (m_as) (m_fd) (m_bc) (m_bg) (m_bs) (m_be) (m_b0) (m_b1) (m_cm) (m_hc))) := (o488 (mo) (hq_tne h_mo (hr_14 hR) (by simp))).trans (ho478)
                    refine hp_get (v := .ref (q + 2)) hx hb hts hown hZ fx497 fl_X13_10 rfl dX13_readLine_391 ?_
                    refine lv_iconst (v := 1) hx hb dX13_readLine_394 (by decide) ?_
                    refine lv_dup2_11 hx hb dX13_readLine_395 rfl rfl ?_
                    have fx498 : V486 (q + 2) = some (.inl (cs 1, 2, .inl (g10))) := (o488 (q + 2) (hq_ne q 2 14 (by decide))).trans ((hq473.2 (q + 2) _ (hr_2 hR) rfl).trans ((hq456.2 (q + 2) _ (hr_2 hR) rfl).trans ((hq426.2 (q + 2) _ (hr_2 hR) rfl).trans (fx439))))
                    refine hp_iald hx hb hZ fx498 (by unfold vp_in; decide) dX13_readLine_396 ?_
                    refine lv_topi (fun y499 ey500 => ?_)
                    have b502 : (y499).toInt = ((g10) (1 : Int32).toNatClampNeg).toInt := by rw [ey500]
                    have b501 : hq_ir (hq_lo 8) (hq_hi 8) y499 := by rw [ey500]; exact hf12 _ (by decide)
                    have b501 : 0 ≤ (y499).toInt ∧ (y499).toInt ≤ 60 := b501
                    refine lv_iconst (v := 1) hx hb dX13_readLine_397 (by decide) ?_
                    refine lv_iadd hx hb dX13_readLine_398 ?_
                    refine lv_topi (fun y503 ey504 => ?_)
                    obtain ⟨k505, hk506, b507, b508⟩ := hq_add (y499) (1)
                    rw [← ey504] at hk506 b507 b508
                    have hk506 : (y503).toInt = (y499).toInt + (1 : Int) + k505 * 4294967296 := hk506
                    obtain rfl : k505 = 0 := by omega
                    refine hp_iast hx hb hZ fx498 (by unfold vp_in; decide) dX13_readLine_399 (fun V509 _ _ e510 o511 hZ => ?_)
                    have e510 : V509 (q + 2) = some (.inl (cs 1, 2, .inl (upd (g10) ((1 : Int32).toNatClampNeg) (y503)))) := e510
                    have hP := hP.put (hr_2 hR) e510 o511 (hq_c21 (by omega) (hq_upd hf12 (show 0 ≤ _ ∧ _ ≤ 60 by constructor <;> omega))) rfl
                    obtain ⟨g512, ge513⟩ : ∃ g9 : Nat → Int32, g9 = upd (g10) ((1 : Int32).toNatClampNeg) (y503) := ⟨_, rfl⟩
                    have fx515 : V509 (q + 2) = some (.inl (cs 1, 2, .inl (g512))) := by rw [ge513]; exact e510
                    have hf514 := hq_rg hP.1 (hr_2 hR) fx515
                    have b516 : (g512 (1 : Int32).toNatClampNeg).toInt = (y503 : Int32).toInt := congrArg Int32.toInt ((congrFun ge513 _).trans hm_ue)
                    have fx517 : V509 (mo) = some (.inr (13, hm_o q (m_tp) (m_sz) (z475) (z476) (z477) (z432) (z433) (m_le) (m_fo) (m_as) (m_fd) (m_bc) (m_bg) (m_bs) (m_be) (m_b0) (m_b1) (m_cm) (m_hc))) := (o511 (mo) (hq_tne h_mo (hr_2 hR) (by simp))).trans (fx497)
                    have fx518 : V509 (q + 10) = some (.inl (cs 1, 120, .inl (g309))) := (o511 (q + 10) (hq_ne q 10 2 (by decide))).trans ((o488 (q + 10) (hq_ne q 10 14 (by decide))).trans ((hq473.2 (q + 10) _ (hr_10 hR) rfl).trans ((hq456.2 (q + 10) _ (hr_10 hR) rfl).trans ((hq426.2 (q + 10) _ (hr_10 hR) rfl).trans (fx437)))))
                    have fx519 : V509 (q + 14) = some (.inl (cs 1, 120, .inl (g489))) := (o511 (q + 14) (hq_ne q 14 2 (by decide))).trans (fx492)
                    exact hq_vret hx hb hr hlocks hZ ⟨rfl, rfl, hP, ⟨z475, z476, z477, z432, z433, fx517, by assumption, by omega⟩, ⟨(hm_JH.of eV1 eV5 eV9 fx518 fx519 fx515 (fun j hj => (congrFun ge310 j).trans (hm_ub (by omega) hj)) (fun j hj => ((congrFun ge490 j).trans (hm_ub (by omega) hj)).trans ((congrFun ge349 j).trans (hm_ub (by omega) hj))) ((congrFun ge513 0).trans (hm_un (by decide))) (hq_rg hI (hr_2 hR) eV9 0 (by decide)).2), (hm_JJ.of (l := y298) eV1 eV5 eV9 fx518 fx519 fx515 (by omega) (by omega) (fun j hj => (congrFun ge310 j).trans (hm_un hj)) (fun j hj => ((congrFun ge490 j).trans (hm_un hj)).trans ((congrFun ge349 j).trans (hm_un hj))) (by rw [show g512 (1 : Int32).toNatClampNeg = _ from (congrFun ge513 _).trans hm_ue]; omega) (fun h9 => by rw [show g309 y298.toNatClampNeg = 4 from (congrFun ge310 _).trans hm_ue] at h9; exact absurd h9 (by decide)))⟩⟩ dX13_readLine_400
                  · have c468 : (y462).toInt = (2 : Int) := hq_eqi.mp c468
                    refine lv_aload_n hx hb dX13_readLine_300 rfl (lv_at hl 2 rfl) ?_
                    refine lv_iconst (v := 5) hx hb dX13_readLine_301 (by decide) ?_
                    have hl529 : (5 : Int32).toInt = 5 := by decide
                    refine hp_callq (hp_runV (As := [.int (5)]) (rest := []) hx hb hml hown hts (t_X13_wrong l D cs B G  V452 n hP.1 q hR (mo) h_mo (5) ho458  (by omega) (by omega) (by omega) (by omega) (by omega) (by omega) (by omega) (by omega) ) hZ ho458 cv_X13_107 rfl rfl ⟨Nat.le_of_ble_eq_true rfl, Nat.le_of_ble_eq_true rfl⟩ rfl hl.1 rfl (Nat.le_of_ble_eq_true rfl) dX13_readLine_302 ⟨(Nat.le_of_ble_eq_true rfl), (Nat.le_of_ble_eq_true rfl)⟩) hZ (fun r523 V520 n521 _ _ hw522 hZ => ?_)
                    obtain ⟨rfl, hq524, ⟨z526, z527, ho528⟩, hr525⟩ := hw522
                    have hP := hP.trans hq524 (by intro g h; simp_all)
                    have b530 := hq_rng z526
                    have b531 := hq_rng z527
                    subst hr525
                    refine W.eq (g2 := F0 m 305 ls [.ref (q + 19)]) rfl ?_
                    have fx532 : V520 (q + 10) = some (.inl (cs 1, 120, .inl (g309))) := (hq524.2 (q + 10) _ (hr_10 hR) rfl).trans ((hq456.2 (q + 10) _ (hr_10 hR) rfl).trans ((hq426.2 (q + 10) _ (hr_10 hR) rfl).trans (fx437)))
                    have fx533 : V520 (q + 14) = some (.inl (cs 1, 120, .inl (g348))) := (hq524.2 (q + 14) _ (hr_14 hR) rfl).trans ((hq456.2 (q + 14) _ (hr_14 hR) rfl).trans ((hq426.2 (q + 14) _ (hr_14 hR) rfl).trans (fx438)))
                    have fx534 : V520 (q + 2) = some (.inl (cs 1, 2, .inl (g10))) := (hq524.2 (q + 2) _ (hr_2 hR) rfl).trans ((hq456.2 (q + 2) _ (hr_2 hR) rfl).trans ((hq426.2 (q + 2) _ (hr_2 hR) rfl).trans (fx439)))
                    exact hq_athrow hx hb hnx hlocks hZ ⟨rfl, rfl, hP, ⟨z429, z430, z431, z526, z527, ho528, by assumption, by omega⟩, (hm_JH.of eV1 eV5 eV9 fx532 fx533 fx534 (fun j hj => (congrFun ge310 j).trans (hm_ub (by omega) hj)) (fun j hj => (congrFun ge349 j).trans (hm_ub (by omega) hj)) rfl (hq_rg hI (hr_2 hR) eV9 0 (by decide)).2)⟩ dX13_readLine_305
                · have c460 : ¬ (r455).toInt < (2 : Int) := fun h9 => c460 (hq_lti.mpr h9)
                  refine lv_aload_n hx hb dX13_readLine_276 rfl (lv_at hl 2 rfl) ?_
                  refine lv_iconst (v := 4) hx hb dX13_readLine_277 (by decide) ?_
                  have hl544 : (4 : Int32).toInt = 4 := by decide
                  refine hp_callq (hp_runV (As := [.int (4)]) (rest := []) hx hb hml hown hts (t_X13_wrong l D cs B G  V452 n hP.1 q hR (mo) h_mo (4) ho458  (by omega) (by omega) (by omega) (by omega) (by omega) (by omega) (by omega) (by omega) ) hZ ho458 cv_X13_107 rfl rfl ⟨Nat.le_of_ble_eq_true rfl, Nat.le_of_ble_eq_true rfl⟩ rfl hl.1 rfl (Nat.le_of_ble_eq_true rfl) dX13_readLine_278 ⟨(Nat.le_of_ble_eq_true rfl), (Nat.le_of_ble_eq_true rfl)⟩) hZ (fun r538 V535 n536 _ _ hw537 hZ => ?_)
                  obtain ⟨rfl, hq539, ⟨z541, z542, ho543⟩, hr540⟩ := hw537
                  have hP := hP.trans hq539 (by intro g h; simp_all)
                  have b545 := hq_rng z541
                  have b546 := hq_rng z542
                  subst hr540
                  refine W.eq (g2 := F0 m 281 ls [.ref (q + 19)]) rfl ?_
                  have fx547 : V535 (q + 10) = some (.inl (cs 1, 120, .inl (g309))) := (hq539.2 (q + 10) _ (hr_10 hR) rfl).trans ((hq456.2 (q + 10) _ (hr_10 hR) rfl).trans ((hq426.2 (q + 10) _ (hr_10 hR) rfl).trans (fx437)))
                  have fx548 : V535 (q + 14) = some (.inl (cs 1, 120, .inl (g348))) := (hq539.2 (q + 14) _ (hr_14 hR) rfl).trans ((hq456.2 (q + 14) _ (hr_14 hR) rfl).trans ((hq426.2 (q + 14) _ (hr_14 hR) rfl).trans (fx438)))
                  have fx549 : V535 (q + 2) = some (.inl (cs 1, 2, .inl (g10))) := (hq539.2 (q + 2) _ (hr_2 hR) rfl).trans ((hq456.2 (q + 2) _ (hr_2 hR) rfl).trans ((hq426.2 (q + 2) _ (hr_2 hR) rfl).trans (fx439)))
                  exact hq_athrow hx hb hnx hlocks hZ ⟨rfl, rfl, hP, ⟨z429, z430, z431, z541, z542, ho543, by assumption, by omega⟩, (hm_JH.of eV1 eV5 eV9 fx547 fx548 fx549 (fun j hj => (congrFun ge310 j).trans (hm_ub (by omega) hj)) (fun j hj => (congrFun ge349 j).trans (hm_ub (by omega) hj)) rfl (hq_rg hI (hr_2 hR) eV9 0 (by decide)).2)⟩ dX13_readLine_281
              · have c450 : ¬ (z431).toInt = (3 : Int) := fun h9 => c450 (hq_eqi.mpr h9)
                refine lv_aload_n hx hb dX13_readLine_256 rfl (lv_at hl 2 rfl) ?_
                refine lv_iconst (v := 1) hx hb dX13_readLine_257 (by decide) ?_
                have hl559 : (1 : Int32).toInt = 1 := by decide
                refine hp_callq (hp_runV (As := [.int (1)]) (rest := []) hx hb hml hown hts (t_X13_wrong l D cs B G  V422 n hP.1 q hR (mo) h_mo (1) ho434  (by omega) (by omega) (by omega) (by omega) (by omega) (by omega) (by omega) (by omega) ) hZ ho434 cv_X13_107 rfl rfl ⟨Nat.le_of_ble_eq_true rfl, Nat.le_of_ble_eq_true rfl⟩ rfl hl.1 rfl (Nat.le_of_ble_eq_true rfl) dX13_readLine_258 ⟨(Nat.le_of_ble_eq_true rfl), (Nat.le_of_ble_eq_true rfl)⟩) hZ (fun r553 V550 n551 _ _ hw552 hZ => ?_)
                obtain ⟨rfl, hq554, ⟨z556, z557, ho558⟩, hr555⟩ := hw552
                have hP := hP.trans hq554 (by intro g h; simp_all)
                have b560 := hq_rng z556
                have b561 := hq_rng z557
                subst hr555
                refine W.eq (g2 := F0 m 261 ls [.ref (q + 19)]) rfl ?_
                have fx562 : V550 (q + 10) = some (.inl (cs 1, 120, .inl (g309))) := (hq554.2 (q + 10) _ (hr_10 hR) rfl).trans ((hq426.2 (q + 10) _ (hr_10 hR) rfl).trans (fx437))
                have fx563 : V550 (q + 14) = some (.inl (cs 1, 120, .inl (g348))) := (hq554.2 (q + 14) _ (hr_14 hR) rfl).trans ((hq426.2 (q + 14) _ (hr_14 hR) rfl).trans (fx438))
                have fx564 : V550 (q + 2) = some (.inl (cs 1, 2, .inl (g10))) := (hq554.2 (q + 2) _ (hr_2 hR) rfl).trans ((hq426.2 (q + 2) _ (hr_2 hR) rfl).trans (fx439))
                exact hq_athrow hx hb hnx hlocks hZ ⟨rfl, rfl, hP, ⟨z429, z430, z431, z556, z557, ho558, by assumption, by omega⟩, (hm_JH.of eV1 eV5 eV9 fx562 fx563 fx564 (fun j hj => (congrFun ge310 j).trans (hm_ub (by omega) hj)) (fun j hj => (congrFun ge349 j).trans (hm_ub (by omega) hj)) rfl (hq_rg hI (hr_2 hR) eV9 0 (by decide)).2)⟩ dX13_readLine_261
            · have c293 : (y289).toInt = (60 : Int) := hq_eqi.mp c293
              refine lv_aload_n hx hb dX13_readLine_102 rfl (lv_at hl 1 rfl) ?_
              refine lv_iconst (v := 4) hx hb dX13_readLine_103 (by decide) ?_
              have hl574 : (4 : Int32).toInt = 4 := by decide
              refine hp_callq (hp_runV (As := [.int (4)]) (rest := []) hx hb hml hown hts (t_X13_wrong l D cs B G  V49 n hP.1 q hR (mo) h_mo (4) ho55  (by omega) (by omega) (by omega) (by omega) (by omega) (by omega) (by omega) (by omega) ) hZ ho55 cv_X13_107 rfl rfl ⟨Nat.le_of_ble_eq_true rfl, Nat.le_of_ble_eq_true rfl⟩ rfl hl.1 rfl (Nat.le_of_ble_eq_true rfl) dX13_readLine_104 ⟨(Nat.le_of_ble_eq_true rfl), (Nat.le_of_ble_eq_true rfl)⟩) hZ (fun r568 V565 n566 _ _ hw567 hZ => ?_)
              obtain ⟨rfl, hq569, ⟨z571, z572, ho573⟩, hr570⟩ := hw567
              have hP := hP.trans hq569 (by intro g h; simp_all)
              have b575 := hq_rng z571
              have b576 := hq_rng z572
              subst hr570
              refine W.eq (g2 := F0 m 107 ls [.ref (q + 19)]) rfl ?_
              have fx577 : V565 (q + 10) = some (.inl (cs 1, 120, .inl (g2))) := (hq569.2 (q + 10) _ (hr_10 hR) rfl).trans ((hq53.2 (q + 10) _ (hr_10 hR) rfl).trans ((hq44.2 (q + 10) _ (hr_10 hR) rfl).trans ((hq35.2 (q + 10) _ (hr_10 hR) rfl).trans ((hq26.2 (q + 10) _ (hr_10 hR) rfl).trans ((hq17.2 (q + 10) _ (hr_10 hR) rfl).trans (eV1))))))
              have fx578 : V565 (q + 14) = some (.inl (cs 1, 120, .inl (g6))) := (hq569.2 (q + 14) _ (hr_14 hR) rfl).trans ((hq53.2 (q + 14) _ (hr_14 hR) rfl).trans ((hq44.2 (q + 14) _ (hr_14 hR) rfl).trans ((hq35.2 (q + 14) _ (hr_14 hR) rfl).trans ((hq26.2 (q + 14) _ (hr_14 hR) rfl).trans ((hq17.2 (q + 14) _ (hr_14 hR) rfl).trans (eV5))))))
              have fx579 : V565 (q + 2) = some (.inl (cs 1, 2, .inl (g10))) := (hq569.2 (q + 2) _ (hr_2 hR) rfl).trans (fx288)
              exact hq_athrow hx hb hnx hlocks hZ ⟨rfl, rfl, hP, ⟨m_fr, m_bh, m_hd, z571, z572, ho573, by assumption, by omega⟩, (hm_JH.of eV1 eV5 eV9 fx577 fx578 fx579 (fun j hj => rfl) (fun j hj => rfl) rfl (hq_rg hI (hr_2 hR) eV9 0 (by decide)).2)⟩ dX13_readLine_107
        · have c48 : ¬ (r43).toInt = (0 : Int) := fun h9 => c48 (hq_eqi.mpr h9)
          refine lv_iconst (v := 3) hx hb dX13_readLine_48 (by decide) ?_
          refine lv_goto (tgt := 79) hx hb dX13_readLine_49 (by decide) ?_
          refine lv_istore_n (lv' := [(1, .int (3)), (0, .ref (mo))]) hx hb dX13_readLine_79 rfl hl (by decide) rfl (fun ls hl => ?_)
          refine lv_iload_n hx hb dX13_readLine_80 rfl (lv_at hl 0 rfl) ?_
          refine lv_iconst (v := -1) hx hb dX13_readLine_81 (by decide) ?_
          refine lv_icmp_ne (tgt := 91) hx hb dX13_readLine_82 (by decide) (fun c580 => ?_) (fun c580 => absurd c580 (by decide))
          refine lv_aload_n hx hb dX13_readLine_91 rfl (lv_at hl 1 rfl) ?_
          refine hp_get (v := .ref (q + 2)) hx hb hts hown hZ ho46 fl_X13_10 rfl dX13_readLine_92 ?_
          refine lv_iconst (v := 1) hx hb dX13_readLine_95 (by decide) ?_
          have fx581 : V40 (q + 2) = some (.inl (cs 1, 2, .inl (g10))) := (hq44.2 (q + 2) _ (hr_2 hR) rfl).trans ((hq35.2 (q + 2) _ (hr_2 hR) rfl).trans ((hq26.2 (q + 2) _ (hr_2 hR) rfl).trans ((hq17.2 (q + 2) _ (hr_2 hR) rfl).trans (eV9))))
          refine hp_iald hx hb hZ fx581 (by unfold vp_in; decide) dX13_readLine_96 ?_
          refine lv_topi (fun y582 ey583 => ?_)
          have b585 : (y582).toInt = ((g10) (1 : Int32).toNatClampNeg).toInt := by rw [ey583]
          have b584 : hq_ir (hq_lo 8) (hq_hi 8) y582 := by rw [ey583]; exact hf12 _ (by decide)
          have b584 : 0 ≤ (y582).toInt ∧ (y582).toInt ≤ 60 := b584
          refine lv_bipush (v := 60) hx hb dX13_readLine_97 (by decide) ?_
          refine lv_icmp_ne (tgt := 108) hx hb dX13_readLine_99 (by decide) (fun c586 => ?_) (fun c586 => ?_)
          · have c586 : ¬ (y582).toInt = (60 : Int) := fun h9 => c586 (hq_eqi.mpr h9)
            refine lv_bipush (v := 60) hx hb dX13_readLine_108 (by decide) ?_
            refine lv_aload_n hx hb dX13_readLine_110 rfl (lv_at hl 1 rfl) ?_
            refine hp_get (v := .ref (q + 2)) hx hb hts hown hZ ho46 fl_X13_10 rfl dX13_readLine_111 ?_
            refine lv_iconst (v := 1) hx hb dX13_readLine_114 (by decide) ?_
            refine hp_iald hx hb hZ fx581 (by unfold vp_in; decide) dX13_readLine_115 ?_
            refine lv_topi (fun y587 ey588 => ?_)
            have b590 : (y587).toInt = ((g10) (1 : Int32).toNatClampNeg).toInt := by rw [ey588]
            have b589 : hq_ir (hq_lo 8) (hq_hi 8) y587 := by rw [ey588]; exact hf12 _ (by decide)
            have b589 : 0 ≤ (y587).toInt ∧ (y587).toInt ≤ 60 := b589
            refine lv_iadd hx hb dX13_readLine_116 ?_
            refine lv_topi (fun y591 ey592 => ?_)
            obtain ⟨k593, hk594, b595, b596⟩ := hq_add (60) (y587)
            rw [← ey592] at hk594 b595 b596
            have hk594 : (y591).toInt = (60 : Int) + (y587).toInt + k593 * 4294967296 := hk594
            obtain rfl : k593 = 0 := by omega
            refine lv_istore_n (lv' := [(2, .int (y591)), (1, .int (3)), (0, .ref (mo))]) hx hb dX13_readLine_117 rfl hl (by decide) rfl (fun ls hl => ?_)
            refine lv_aload_n hx hb dX13_readLine_118 rfl (lv_at hl 2 rfl) ?_
            refine hp_get (v := .ref (q + 10)) hx hb hts hown hZ ho46 fl_X13_29 rfl dX13_readLine_119 ?_
            refine lv_iload_n hx hb dX13_readLine_122 rfl (lv_at hl 0 rfl) ?_
            refine lv_iload_n hx hb dX13_readLine_123 rfl (lv_at hl 1 rfl) ?_
            have fx597 : V40 (q + 10) = some (.inl (cs 1, 120, .inl (g2))) := (hq44.2 (q + 10) _ (hr_10 hR) rfl).trans ((hq35.2 (q + 10) _ (hr_10 hR) rfl).trans ((hq26.2 (q + 10) _ (hr_10 hR) rfl).trans ((hq17.2 (q + 10) _ (hr_10 hR) rfl).trans (eV1))))
            refine hp_iast hx hb hZ fx597 (hq_in (by omega) (by omega)) dX13_readLine_124 (fun V598 _ _ e599 o600 hZ => ?_)
            have e599 : V598 (q + 10) = some (.inl (cs 1, 120, .inl (upd (g2) ((y591 : Int32).toNatClampNeg) (3)))) := e599
            have hl601 : (3 : Int32).toInt = 3 := by decide
            have hP := hP.put (hr_10 hR) e599 o600 (hq_c21 (by omega) (hq_upd hf4 (hq_rng _))) rfl
            obtain ⟨g602, ge603⟩ : ∃ g9 : Nat → Int32, g9 = upd (g2) ((y591 : Int32).toNatClampNeg) (3) := ⟨_, rfl⟩
            have fx605 : V598 (q + 10) = some (.inl (cs 1, 120, .inl (g602))) := by rw [ge603]; exact e599
            have hf604 := hq_rg hP.1 (hr_10 hR) fx605
            have b606 : (g602 (y591 : Int32).toNatClampNeg).toInt = (3 : Int32).toInt := congrArg Int32.toInt ((congrFun ge603 _).trans hm_ue)
            have b607 : (3 : Int32).toInt = 3 := by decide
            refine lv_aload_n hx hb dX13_readLine_125 rfl (lv_at hl 2 rfl) ?_
            have fx608 : V598 (mo) = some (.inr (13, hm_o q (m_tp) (m_sz) (m_fr) (m_bh) (m_hd) (m_ft) (m_fa) (m_le) (m_fo) (m_as) (m_fd) (m_bc) (m_bg) (m_bs) (m_be) (m_b0) (m_b1) (m_cm) (m_hc))) := (o600 (mo) (hq_tne h_mo (hr_10 hR) (by simp))).trans (ho46)
            refine hp_get (v := .ref (q + 11)) hx hb hts hown hZ fx608 fl_X13_32 rfl dX13_readLine_126 ?_
            refine lv_iload_n hx hb dX13_readLine_129 rfl (lv_at hl 0 rfl) ?_
            refine lv_iconst (v := -1) hx hb dX13_readLine_130 (by decide) ?_
            obtain ⟨hN611, g610, eV609, hf612⟩ := hq_o21 hP.1 (hr_11 hR)
            refine hp_iast hx hb hZ eV609 (hq_in (by omega) (by omega)) dX13_readLine_131 (fun V613 _ _ e614 o615 hZ => ?_)
            have e614 : V613 (q + 11) = some (.inl (cs 1, 120, .inl (upd (g610) ((y591 : Int32).toNatClampNeg) (-1)))) := e614
            have hl616 : (-1 : Int32).toInt = -1 := by decide
            have hP := hP.put (hr_11 hR) e614 o615 (hq_c21 (by omega) (hq_upd hf612 (hq_rng _))) rfl
            refine lv_aload_n hx hb dX13_readLine_132 rfl (lv_at hl 2 rfl) ?_
            have fx617 : V613 (mo) = some (.inr (13, hm_o q (m_tp) (m_sz) (m_fr) (m_bh) (m_hd) (m_ft) (m_fa) (m_le) (m_fo) (m_as) (m_fd) (m_bc) (m_bg) (m_bs) (m_be) (m_b0) (m_b1) (m_cm) (m_hc))) := (o615 (mo) (hq_tne h_mo (hr_11 hR) (by simp))).trans (fx608)
            refine hp_get (v := .ref (q + 12)) hx hb hts hown hZ fx617 fl_X13_35 rfl dX13_readLine_133 ?_
            refine lv_iload_n hx hb dX13_readLine_136 rfl (lv_at hl 0 rfl) ?_
            refine lv_iconst (v := -1) hx hb dX13_readLine_137 (by decide) ?_
            obtain ⟨hN620, g619, eV618, hf621⟩ := hq_o21 hP.1 (hr_12 hR)
            refine hp_iast hx hb hZ eV618 (hq_in (by omega) (by omega)) dX13_readLine_138 (fun V622 _ _ e623 o624 hZ => ?_)
            have e623 : V622 (q + 12) = some (.inl (cs 1, 120, .inl (upd (g619) ((y591 : Int32).toNatClampNeg) (-1)))) := e623
            have hl625 : (-1 : Int32).toInt = -1 := by decide
            have hP := hP.put (hr_12 hR) e623 o624 (hq_c21 (by omega) (hq_upd hf621 (hq_rng _))) rfl
            refine lv_aload_n hx hb dX13_readLine_139 rfl (lv_at hl 2 rfl) ?_
            have fx626 : V622 (mo) = some (.inr (13, hm_o q (m_tp) (m_sz) (m_fr) (m_bh) (m_hd) (m_ft) (m_fa) (m_le) (m_fo) (m_as) (m_fd) (m_bc) (m_bg) (m_bs) (m_be) (m_b0) (m_b1) (m_cm) (m_hc))) := (o624 (mo) (hq_tne h_mo (hr_12 hR) (by simp))).trans (fx617)
            refine hp_get (v := .ref (q + 13)) hx hb hts hown hZ fx626 fl_X13_38 rfl dX13_readLine_140 ?_
            refine lv_iload_n hx hb dX13_readLine_143 rfl (lv_at hl 0 rfl) ?_
            refine lv_iconst (v := -1) hx hb dX13_readLine_144 (by decide) ?_
            obtain ⟨hN629, g628, eV627, hf630⟩ := hq_o21 hP.1 (hr_13 hR)
            refine hp_iast hx hb hZ eV627 (hq_in (by omega) (by omega)) dX13_readLine_145 (fun V631 _ _ e632 o633 hZ => ?_)
            have e632 : V631 (q + 13) = some (.inl (cs 1, 120, .inl (upd (g628) ((y591 : Int32).toNatClampNeg) (-1)))) := e632
            have hl634 : (-1 : Int32).toInt = -1 := by decide
            have hP := hP.put (hr_13 hR) e632 o633 (hq_c21 (by omega) (hq_upd hf630 (hq_rng _))) rfl
            refine lv_aload_n hx hb dX13_readLine_146 rfl (lv_at hl 2 rfl) ?_
            have fx635 : V631 (mo) = some (.inr (13, hm_o q (m_tp) (m_sz) (m_fr) (m_bh) (m_hd) (m_ft) (m_fa) (m_le) (m_fo) (m_as) (m_fd) (m_bc) (m_bg) (m_bs) (m_be) (m_b0) (m_b1) (m_cm) (m_hc))) := (o633 (mo) (hq_tne h_mo (hr_13 hR) (by simp))).trans (fx626)
            refine hp_get (v := .ref (q + 14)) hx hb hts hown hZ fx635 fl_X13_41 rfl dX13_readLine_147 ?_
            refine lv_iload_n hx hb dX13_readLine_150 rfl (lv_at hl 0 rfl) ?_
            refine lv_iconst (v := 0) hx hb dX13_readLine_151 (by decide) ?_
            have fx636 : V631 (q + 14) = some (.inl (cs 1, 120, .inl (g6))) := (o633 (q + 14) (hq_ne q 14 13 (by decide))).trans ((o624 (q + 14) (hq_ne q 14 12 (by decide))).trans ((o615 (q + 14) (hq_ne q 14 11 (by decide))).trans ((o600 (q + 14) (hq_ne q 14 10 (by decide))).trans ((hq44.2 (q + 14) _ (hr_14 hR) rfl).trans ((hq35.2 (q + 14) _ (hr_14 hR) rfl).trans ((hq26.2 (q + 14) _ (hr_14 hR) rfl).trans ((hq17.2 (q + 14) _ (hr_14 hR) rfl).trans (eV5))))))))
            refine hp_iast hx hb hZ fx636 (hq_in (by omega) (by omega)) dX13_readLine_152 (fun V637 _ _ e638 o639 hZ => ?_)
            have e638 : V637 (q + 14) = some (.inl (cs 1, 120, .inl (upd (g6) ((y591 : Int32).toNatClampNeg) (0)))) := e638
            have hl640 : (0 : Int32).toInt = 0 := by decide
            have hP := hP.put (hr_14 hR) e638 o639 (hq_c21 (by omega) (hq_upd hf8 (show 0 ≤ _ ∧ _ ≤ 8 by constructor <;> omega))) rfl
            obtain ⟨g641, ge642⟩ : ∃ g9 : Nat → Int32, g9 = upd (g6) ((y591 : Int32).toNatClampNeg) (0) := ⟨_, rfl⟩
            have fx644 : V637 (q + 14) = some (.inl (cs 1, 120, .inl (g641))) := by rw [ge642]; exact e638
            have hf643 := hq_rg hP.1 (hr_14 hR) fx644
            have b645 : (g641 (y591 : Int32).toNatClampNeg).toInt = (0 : Int32).toInt := congrArg Int32.toInt ((congrFun ge642 _).trans hm_ue)
            have b646 : (0 : Int32).toInt = 0 := by decide
            refine lv_aload_n hx hb dX13_readLine_153 rfl (lv_at hl 2 rfl) ?_
            have fx647 : V637 (mo) = some (.inr (13, hm_o q (m_tp) (m_sz) (m_fr) (m_bh) (m_hd) (m_ft) (m_fa) (m_le) (m_fo) (m_as) (m_fd) (m_bc) (m_bg) (m_bs) (m_be) (m_b0) (m_b1) (m_cm) (m_hc))) := (o639 (mo) (hq_tne h_mo (hr_14 hR) (by simp))).trans (fx635)
            refine hp_get (v := .ref (q + 15)) hx hb hts hown hZ fx647 fl_X13_44 rfl dX13_readLine_154 ?_
            refine lv_iload_n hx hb dX13_readLine_157 rfl (lv_at hl 0 rfl) ?_
            refine lv_iconst (v := 0) hx hb dX13_readLine_158 (by decide) ?_
            obtain ⟨hN650, g649, eV648, hf651⟩ := hq_o21 hP.1 (hr_15 hR)
            refine hp_iast hx hb hZ eV648 (hq_in (by omega) (by omega)) dX13_readLine_159 (fun V652 _ _ e653 o654 hZ => ?_)
            have e653 : V652 (q + 15) = some (.inl (cs 1, 120, .inl (upd (g649) ((y591 : Int32).toNatClampNeg) (0)))) := e653
            have hl655 : (0 : Int32).toInt = 0 := by decide
            have hP := hP.put (hr_15 hR) e653 o654 (hq_c21 (by omega) (hq_upd hf651 (show 0 ≤ _ ∧ _ ≤ 8 by constructor <;> omega))) rfl
            refine lv_aload_n hx hb dX13_readLine_160 rfl (lv_at hl 2 rfl) ?_
            have fx656 : V652 (mo) = some (.inr (13, hm_o q (m_tp) (m_sz) (m_fr) (m_bh) (m_hd) (m_ft) (m_fa) (m_le) (m_fo) (m_as) (m_fd) (m_bc) (m_bg) (m_bs) (m_be) (m_b0) (m_b1) (m_cm) (m_hc))) := (o654 (mo) (hq_tne h_mo (hr_15 hR) (by simp))).trans (fx647)
            refine hp_get (v := .ref (q + 16)) hx hb hts hown hZ fx656 fl_X13_47 rfl dX13_readLine_161 ?_
            refine lv_iload_n hx hb dX13_readLine_164 rfl (lv_at hl 0 rfl) ?_
            refine lv_iconst (v := 0) hx hb dX13_readLine_165 (by decide) ?_
            obtain ⟨hN659, g658, eV657, hf660⟩ := hq_o21 hP.1 (hr_16 hR)
            refine hp_iast hx hb hZ eV657 (hq_in (by omega) (by omega)) dX13_readLine_166 (fun V661 _ _ e662 o663 hZ => ?_)
            have e662 : V661 (q + 16) = some (.inl (cs 1, 120, .inl (upd (g658) ((y591 : Int32).toNatClampNeg) (0)))) := e662
            have hl664 : (0 : Int32).toInt = 0 := by decide
            have hP := hP.put (hr_16 hR) e662 o663 (hq_c21 (by omega) (hq_upd hf660 (show 0 ≤ _ ∧ _ ≤ 29 by constructor <;> omega))) rfl
            refine lv_aload_n hx hb dX13_readLine_167 rfl (lv_at hl 2 rfl) ?_
            have fx671 : V661 (mo) = some (.inr (13, hm_o q (m_tp) (m_sz) (m_fr) (m_bh) (m_hd) (m_ft) (m_fa) (m_le) (m_fo) (m_as) (m_fd) (m_bc) (m_bg) (m_bs) (m_be) (m_b0) (m_b1) (m_cm) (m_hc))) := (o663 (mo) (hq_tne h_mo (hr_16 hR) (by simp))).trans (fx656)
            refine hp_callv (hp_runV (As := []) (rest := []) hx hb hml hown hts (t_X13_scan l D cs B G  V661 n hP.1 q hR (mo) h_mo fx671  (by omega) (by omega) (by omega) (by omega) (by omega) (by omega) (by omega) (by omega) (hm_SC.s0 (by assumption)) (hm_SC.s1 (by assumption) (by first | omega | (have h8 := hm_Is.hd (by assumption) (by omega); omega)))) hZ fx671 cv_X13_111 rfl rfl ⟨Nat.le_of_ble_eq_true rfl, Nat.le_of_ble_eq_true rfl⟩ rfl hl.1 rfl (Nat.le_of_ble_eq_true rfl) dX13_readLine_168 ⟨(Nat.le_of_ble_eq_true rfl), (Nat.le_of_ble_eq_true rfl)⟩) hZ (fun V665 n666 _ _ hw667 hZ => ?_)
            obtain ⟨rfl, hq669, ⟨z672, z673, z674, ho675, hi676, hi677, hi678⟩⟩ := hw667
            have hP := hP.trans hq669 (by intro g h; simp_all)
            have b679 := hq_rng z672
            have b680 := hq_rng z673
            have b681 := hq_rng z674
            refine lv_iload_n hx hb dX13_readLine_171 rfl (lv_at hl 1 rfl) ?_
            refine lv_iconst (v := 4) hx hb dX13_readLine_172 (by decide) ?_
            refine lv_icmp_eq (tgt := 181) hx hb dX13_readLine_173 (by decide) (fun c682 => absurd c682 (by decide)) (fun c682 => ?_)
            refine lv_iload_n hx hb dX13_readLine_176 rfl (lv_at hl 1 rfl) ?_
            refine lv_iconst (v := 5) hx hb dX13_readLine_177 (by decide) ?_
            refine lv_icmp_ne (tgt := 194) hx hb dX13_readLine_178 (by decide) (fun c683 => ?_) (fun c683 => absurd c683 (by decide))
            refine lv_iload_n hx hb dX13_readLine_194 rfl (lv_at hl 1 rfl) ?_
            refine lv_iconst (v := 2) hx hb dX13_readLine_195 (by decide) ?_
            refine lv_icmp_eq (tgt := 204) hx hb dX13_readLine_196 (by decide) (fun c684 => absurd c684 (by decide)) (fun c684 => ?_)
            refine lv_aload_n hx hb dX13_readLine_199 rfl (lv_at hl 2 rfl) ?_
            refine lv_iload_n hx hb dX13_readLine_200 rfl (lv_at hl 0 rfl) ?_
            have fx699 : V665 (q + 10) = some (.inl (cs 1, 120, .inl (g602))) := (hq669.2 (q + 10) _ (hr_10 hR) rfl).trans ((o663 (q + 10) (hq_ne q 10 16 (by decide))).trans ((o654 (q + 10) (hq_ne q 10 15 (by decide))).trans ((o639 (q + 10) (hq_ne q 10 14 (by decide))).trans ((o633 (q + 10) (hq_ne q 10 13 (by decide))).trans ((o624 (q + 10) (hq_ne q 10 12 (by decide))).trans ((o615 (q + 10) (hq_ne q 10 11 (by decide))).trans (fx605)))))))
            have fx700 : V665 (q + 14) = some (.inl (cs 1, 120, .inl (g641))) := (hq669.2 (q + 14) _ (hr_14 hR) rfl).trans ((o663 (q + 14) (hq_ne q 14 16 (by decide))).trans ((o654 (q + 14) (hq_ne q 14 15 (by decide))).trans (fx644)))
            have fx701 : V665 (q + 2) = some (.inl (cs 1, 2, .inl (g10))) := (hq669.2 (q + 2) _ (hr_2 hR) rfl).trans ((o663 (q + 2) (hq_ne q 2 16 (by decide))).trans ((o654 (q + 2) (hq_ne q 2 15 (by decide))).trans ((o639 (q + 2) (hq_ne q 2 14 (by decide))).trans ((o633 (q + 2) (hq_ne q 2 13 (by decide))).trans ((o624 (q + 2) (hq_ne q 2 12 (by decide))).trans ((o615 (q + 2) (hq_ne q 2 11 (by decide))).trans ((o600 (q + 2) (hq_ne q 2 10 (by decide))).trans (fx581))))))))
            refine hq_callx (hq_runV (As := [.int (y591)]) (rest := []) hx hb hml hown hts (t_X13_readWhere l D cs B G  V665 n hP.1 q hR (mo) h_mo (y591) ho675  (by omega) (by omega) (by omega) (by omega) (by omega) (by omega) (by omega) (by omega) (by assumption) (by omega) (by omega)) hZ ho675 cv_X13_185 rfl rfl ⟨Nat.le_of_ble_eq_true rfl, Nat.le_of_ble_eq_true rfl⟩ rfl hl.1 rfl (Nat.le_of_ble_eq_true rfl) dX13_readLine_201 ⟨(Nat.le_of_ble_eq_true rfl), (Nat.le_of_ble_eq_true rfl)⟩) hZ hnx hlocks (by rintro x9 V9 n9 ⟨rfl, rfl, hq9, ⟨z691x, z692x, z693x, z694x, z695x, hox0, hix00, hix01⟩⟩; have hbxz691 := hq_rng z691x; have hbxz692 := hq_rng z692x; have hbxz693 := hq_rng z693x; have hbxz694 := hq_rng z694x; have hbxz695 := hq_rng z695x; exact ⟨rfl, rfl, hP.trans hq9 (by intro g h; simp_all), ⟨z691x, z692x, z693x, z694x, z695x, hox0, by assumption, by omega⟩, ((hm_JH.of eV1 eV5 eV9 fx699 fx700 fx701 (fun j hj => (congrFun ge603 j).trans (hm_ub (by omega) hj)) (fun j hj => (congrFun ge642 j).trans (hm_ub (by omega) hj)) rfl (hq_rg hI (hr_2 hR) eV9 0 (by decide)).2)).keep hR (fun x t hx hg => hq9.2 x t hx (by simp [hg]))⟩) (fun v9 V685 n686 _ _ hw687 hZ => ?_)
            obtain ⟨rfl, rfl, hq689, ⟨z691, z692, z693, z694, z695, ho696, hi697, hi698⟩⟩ := hw687
            refine W.eq (g2 := F0 m 204 ls []) rfl ?_
            have hP := hP.trans hq689 (by intro g h; simp_all)
            have b702 := hq_rng z691
            have b703 := hq_rng z692
            have b704 := hq_rng z693
            have b705 := hq_rng z694
            have b706 := hq_rng z695
            refine lv_iload_n hx hb dX13_readLine_204 rfl (lv_at hl 1 rfl) ?_
            refine lv_iconst (v := 2) hx hb dX13_readLine_205 (by decide) ?_
            refine lv_icmp_eq (tgt := 219) hx hb dX13_readLine_206 (by decide) (fun c707 => absurd c707 (by decide)) (fun c707 => ?_)
            refine lv_iload_n hx hb dX13_readLine_209 rfl (lv_at hl 1 rfl) ?_
            refine lv_iconst (v := 3) hx hb dX13_readLine_210 (by decide) ?_
            refine lv_icmp_eq (tgt := 219) hx hb dX13_readLine_211 (by decide) (fun c708 => ?_) (fun c708 => absurd (by decide) c708)
            refine lv_iload_n hx hb dX13_readLine_219 rfl (lv_at hl 1 rfl) ?_
            refine lv_iconst (v := 3) hx hb dX13_readLine_220 (by decide) ?_
            refine lv_icmp_ne (tgt := 229) hx hb dX13_readLine_221 (by decide) (fun c709 => absurd (by decide) c709) (fun c709 => ?_)
            refine lv_aload_n hx hb dX13_readLine_224 rfl (lv_at hl 2 rfl) ?_
            refine lv_iload_n hx hb dX13_readLine_225 rfl (lv_at hl 0 rfl) ?_
            have fx724 : V685 (q + 10) = some (.inl (cs 1, 120, .inl (g602))) := (hq689.2 (q + 10) _ (hr_10 hR) rfl).trans (fx699)
            have fx725 : V685 (q + 14) = some (.inl (cs 1, 120, .inl (g641))) := (hq689.2 (q + 14) _ (hr_14 hR) rfl).trans (fx700)
            have fx726 : V685 (q + 2) = some (.inl (cs 1, 2, .inl (g10))) := (hq689.2 (q + 2) _ (hr_2 hR) rfl).trans (fx701)
            refine hq_callx (hq_runV (As := [.int (y591)]) (rest := []) hx hb hml hown hts (t_X13_readCompound l D cs B G  V685 n hP.1 q hR (mo) h_mo (y591) ho696  (by omega) (by omega) (by omega) (by omega) (by omega) (by omega) (by omega) (by omega) (by assumption) (by omega) (by omega)) hZ ho696 cv_X13_192 rfl rfl ⟨Nat.le_of_ble_eq_true rfl, Nat.le_of_ble_eq_true rfl⟩ rfl hl.1 rfl (Nat.le_of_ble_eq_true rfl) dX13_readLine_226 ⟨(Nat.le_of_ble_eq_true rfl), (Nat.le_of_ble_eq_true rfl)⟩) hZ hnx hlocks (by rintro x9 V9 n9 ⟨rfl, rfl, hq9, ⟨z716x, z717x, z718x, z719x, z720x, hox0, hix00, hix01⟩⟩; have hbxz716 := hq_rng z716x; have hbxz717 := hq_rng z717x; have hbxz718 := hq_rng z718x; have hbxz719 := hq_rng z719x; have hbxz720 := hq_rng z720x; exact ⟨rfl, rfl, hP.trans hq9 (by intro g h; simp_all), ⟨z716x, z717x, z718x, z719x, z720x, hox0, by assumption, by omega⟩, ((hm_JH.of eV1 eV5 eV9 fx724 fx725 fx726 (fun j hj => (congrFun ge603 j).trans (hm_ub (by omega) hj)) (fun j hj => (congrFun ge642 j).trans (hm_ub (by omega) hj)) rfl (hq_rg hI (hr_2 hR) eV9 0 (by decide)).2)).keep hR (fun x t hx hg => hq9.2 x t hx (by simp [hg]))⟩) (fun v9 V710 n711 _ _ hw712 hZ => ?_)
            obtain ⟨rfl, rfl, hq714, ⟨z716, z717, z718, z719, z720, ho721, hi722, hi723⟩⟩ := hw712
            refine W.eq (g2 := F0 m 229 ls []) rfl ?_
            have hP := hP.trans hq714 (by intro g h; simp_all)
            have b727 := hq_rng z716
            have b728 := hq_rng z717
            have b729 := hq_rng z718
            have b730 := hq_rng z719
            have b731 := hq_rng z720
            refine lv_iload_n hx hb dX13_readLine_229 rfl (lv_at hl 1 rfl) ?_
            refine lv_if_eq (tgt := 248) hx hb dX13_readLine_230 (by decide) (fun c732 => absurd c732 (by decide)) (fun c732 => ?_)
            refine lv_iload_n hx hb dX13_readLine_233 rfl (lv_at hl 1 rfl) ?_
            refine lv_iconst (v := 1) hx hb dX13_readLine_234 (by decide) ?_
            refine lv_icmp_eq (tgt := 248) hx hb dX13_readLine_235 (by decide) (fun c733 => absurd c733 (by decide)) (fun c733 => ?_)
            refine lv_iload_n hx hb dX13_readLine_238 rfl (lv_at hl 1 rfl) ?_
            refine lv_iconst (v := 2) hx hb dX13_readLine_239 (by decide) ?_
            refine lv_icmp_eq (tgt := 248) hx hb dX13_readLine_240 (by decide) (fun c734 => absurd c734 (by decide)) (fun c734 => ?_)
            refine lv_iload_n hx hb dX13_readLine_243 rfl (lv_at hl 1 rfl) ?_
            refine lv_iconst (v := 4) hx hb dX13_readLine_244 (by decide) ?_
            refine lv_icmp_ne (tgt := 321) hx hb dX13_readLine_245 (by decide) (fun c735 => ?_) (fun c735 => absurd c735 (by decide))
            refine lv_iload_n hx hb dX13_readLine_321 rfl (lv_at hl 1 rfl) ?_
            refine lv_if_eq (tgt := 330) hx hb dX13_readLine_322 (by decide) (fun c736 => absurd c736 (by decide)) (fun c736 => ?_)
            refine lv_iload_n hx hb dX13_readLine_325 rfl (lv_at hl 1 rfl) ?_
            refine lv_iconst (v := 2) hx hb dX13_readLine_326 (by decide) ?_
            refine lv_icmp_ne (tgt := 365) hx hb dX13_readLine_327 (by decide) (fun c737 => ?_) (fun c737 => absurd c737 (by decide))
            refine lv_iload_n hx hb dX13_readLine_365 rfl (lv_at hl 1 rfl) ?_
            refine lv_iconst (v := 2) hx hb dX13_readLine_366 (by decide) ?_
            refine lv_icmp_ne (tgt := 390) hx hb dX13_readLine_367 (by decide) (fun c738 => ?_) (fun c738 => absurd c738 (by decide))
            refine lv_aload_n hx hb dX13_readLine_390 rfl (lv_at hl 2 rfl) ?_
            refine hp_get (v := .ref (q + 2)) hx hb hts hown hZ ho721 fl_X13_10 rfl dX13_readLine_391 ?_
            refine lv_iconst (v := 1) hx hb dX13_readLine_394 (by decide) ?_
            refine lv_dup2_11 hx hb dX13_readLine_395 rfl rfl ?_
            have fx739 : V710 (q + 2) = some (.inl (cs 1, 2, .inl (g10))) := (hq714.2 (q + 2) _ (hr_2 hR) rfl).trans (fx726)
            refine hp_iald hx hb hZ fx739 (by unfold vp_in; decide) dX13_readLine_396 ?_
            refine lv_topi (fun y740 ey741 => ?_)
            have b743 : (y740).toInt = ((g10) (1 : Int32).toNatClampNeg).toInt := by rw [ey741]
            have b742 : hq_ir (hq_lo 8) (hq_hi 8) y740 := by rw [ey741]; exact hf12 _ (by decide)
            have b742 : 0 ≤ (y740).toInt ∧ (y740).toInt ≤ 60 := b742
            refine lv_iconst (v := 1) hx hb dX13_readLine_397 (by decide) ?_
            refine lv_iadd hx hb dX13_readLine_398 ?_
            refine lv_topi (fun y744 ey745 => ?_)
            obtain ⟨k746, hk747, b748, b749⟩ := hq_add (y740) (1)
            rw [← ey745] at hk747 b748 b749
            have hk747 : (y744).toInt = (y740).toInt + (1 : Int) + k746 * 4294967296 := hk747
            obtain rfl : k746 = 0 := by omega
            refine hp_iast hx hb hZ fx739 (by unfold vp_in; decide) dX13_readLine_399 (fun V750 _ _ e751 o752 hZ => ?_)
            have e751 : V750 (q + 2) = some (.inl (cs 1, 2, .inl (upd (g10) ((1 : Int32).toNatClampNeg) (y744)))) := e751
            have hP := hP.put (hr_2 hR) e751 o752 (hq_c21 (by omega) (hq_upd hf12 (show 0 ≤ _ ∧ _ ≤ 60 by constructor <;> omega))) rfl
            obtain ⟨g753, ge754⟩ : ∃ g9 : Nat → Int32, g9 = upd (g10) ((1 : Int32).toNatClampNeg) (y744) := ⟨_, rfl⟩
            have fx756 : V750 (q + 2) = some (.inl (cs 1, 2, .inl (g753))) := by rw [ge754]; exact e751
            have hf755 := hq_rg hP.1 (hr_2 hR) fx756
            have b757 : (g753 (1 : Int32).toNatClampNeg).toInt = (y744 : Int32).toInt := congrArg Int32.toInt ((congrFun ge754 _).trans hm_ue)
            have fx758 : V750 (mo) = some (.inr (13, hm_o q (m_tp) (m_sz) (z716) (z717) (z718) (z719) (z720) (m_le) (m_fo) (m_as) (m_fd) (m_bc) (m_bg) (m_bs) (m_be) (m_b0) (m_b1) (m_cm) (m_hc))) := (o752 (mo) (hq_tne h_mo (hr_2 hR) (by simp))).trans (ho721)
            have fx759 : V750 (q + 10) = some (.inl (cs 1, 120, .inl (g602))) := (o752 (q + 10) (hq_ne q 10 2 (by decide))).trans ((hq714.2 (q + 10) _ (hr_10 hR) rfl).trans (fx724))
            have fx760 : V750 (q + 14) = some (.inl (cs 1, 120, .inl (g641))) := (o752 (q + 14) (hq_ne q 14 2 (by decide))).trans ((hq714.2 (q + 14) _ (hr_14 hR) rfl).trans (fx725))
            exact hq_vret hx hb hr hlocks hZ ⟨rfl, rfl, hP, ⟨z716, z717, z718, z719, z720, fx758, by assumption, by omega⟩, ⟨(hm_JH.of eV1 eV5 eV9 fx759 fx760 fx756 (fun j hj => (congrFun ge603 j).trans (hm_ub (by omega) hj)) (fun j hj => (congrFun ge642 j).trans (hm_ub (by omega) hj)) ((congrFun ge754 0).trans (hm_un (by decide))) (hq_rg hI (hr_2 hR) eV9 0 (by decide)).2), (hm_JJ.of (l := y591) eV1 eV5 eV9 fx759 fx760 fx756 (by omega) (by omega) (fun j hj => (congrFun ge603 j).trans (hm_un hj)) (fun j hj => (congrFun ge642 j).trans (hm_un hj)) (by rw [show g753 (1 : Int32).toNatClampNeg = _ from (congrFun ge754 _).trans hm_ue]; omega) (fun h9 => by rw [show g602 y591.toNatClampNeg = 3 from (congrFun ge603 _).trans hm_ue] at h9; exact absurd h9 (by decide)))⟩⟩ dX13_readLine_400
          · have c586 : (y582).toInt = (60 : Int) := hq_eqi.mp c586
            refine lv_aload_n hx hb dX13_readLine_102 rfl (lv_at hl 1 rfl) ?_
            refine lv_iconst (v := 4) hx hb dX13_readLine_103 (by decide) ?_
            have hl770 : (4 : Int32).toInt = 4 := by decide
            refine hp_callq (hp_runV (As := [.int (4)]) (rest := []) hx hb hml hown hts (t_X13_wrong l D cs B G  V40 n hP.1 q hR (mo) h_mo (4) ho46  (by omega) (by omega) (by omega) (by omega) (by omega) (by omega) (by omega) (by omega) ) hZ ho46 cv_X13_107 rfl rfl ⟨Nat.le_of_ble_eq_true rfl, Nat.le_of_ble_eq_true rfl⟩ rfl hl.1 rfl (Nat.le_of_ble_eq_true rfl) dX13_readLine_104 ⟨(Nat.le_of_ble_eq_true rfl), (Nat.le_of_ble_eq_true rfl)⟩) hZ (fun r764 V761 n762 _ _ hw763 hZ => ?_)
            obtain ⟨rfl, hq765, ⟨z767, z768, ho769⟩, hr766⟩ := hw763
            have hP := hP.trans hq765 (by intro g h; simp_all)
            have b771 := hq_rng z767
            have b772 := hq_rng z768
            subst hr766
            refine W.eq (g2 := F0 m 107 ls [.ref (q + 19)]) rfl ?_
            have fx773 : V761 (q + 10) = some (.inl (cs 1, 120, .inl (g2))) := (hq765.2 (q + 10) _ (hr_10 hR) rfl).trans ((hq44.2 (q + 10) _ (hr_10 hR) rfl).trans ((hq35.2 (q + 10) _ (hr_10 hR) rfl).trans ((hq26.2 (q + 10) _ (hr_10 hR) rfl).trans ((hq17.2 (q + 10) _ (hr_10 hR) rfl).trans (eV1)))))
            have fx774 : V761 (q + 14) = some (.inl (cs 1, 120, .inl (g6))) := (hq765.2 (q + 14) _ (hr_14 hR) rfl).trans ((hq44.2 (q + 14) _ (hr_14 hR) rfl).trans ((hq35.2 (q + 14) _ (hr_14 hR) rfl).trans ((hq26.2 (q + 14) _ (hr_14 hR) rfl).trans ((hq17.2 (q + 14) _ (hr_14 hR) rfl).trans (eV5)))))
            have fx775 : V761 (q + 2) = some (.inl (cs 1, 2, .inl (g10))) := (hq765.2 (q + 2) _ (hr_2 hR) rfl).trans (fx581)
            exact hq_athrow hx hb hnx hlocks hZ ⟨rfl, rfl, hP, ⟨m_fr, m_bh, m_hd, z767, z768, ho769, by assumption, by omega⟩, (hm_JH.of eV1 eV5 eV9 fx773 fx774 fx775 (fun j hj => rfl) (fun j hj => rfl) rfl (hq_rg hI (hr_2 hR) eV9 0 (by decide)).2)⟩ dX13_readLine_107
      · have c39 : ¬ (r34).toInt = (0 : Int) := fun h9 => c39 (hq_eqi.mpr h9)
        refine lv_iconst (v := 2) hx hb dX13_readLine_35 (by decide) ?_
        refine lv_goto (tgt := 79) hx hb dX13_readLine_36 (by decide) ?_
        refine lv_istore_n (lv' := [(1, .int (2)), (0, .ref (mo))]) hx hb dX13_readLine_79 rfl hl (by decide) rfl (fun ls hl => ?_)
        refine lv_iload_n hx hb dX13_readLine_80 rfl (lv_at hl 0 rfl) ?_
        refine lv_iconst (v := -1) hx hb dX13_readLine_81 (by decide) ?_
        refine lv_icmp_ne (tgt := 91) hx hb dX13_readLine_82 (by decide) (fun c776 => ?_) (fun c776 => absurd c776 (by decide))
        refine lv_aload_n hx hb dX13_readLine_91 rfl (lv_at hl 1 rfl) ?_
        refine hp_get (v := .ref (q + 2)) hx hb hts hown hZ ho37 fl_X13_10 rfl dX13_readLine_92 ?_
        refine lv_iconst (v := 1) hx hb dX13_readLine_95 (by decide) ?_
        have fx777 : V31 (q + 2) = some (.inl (cs 1, 2, .inl (g10))) := (hq35.2 (q + 2) _ (hr_2 hR) rfl).trans ((hq26.2 (q + 2) _ (hr_2 hR) rfl).trans ((hq17.2 (q + 2) _ (hr_2 hR) rfl).trans (eV9)))
        refine hp_iald hx hb hZ fx777 (by unfold vp_in; decide) dX13_readLine_96 ?_
        refine lv_topi (fun y778 ey779 => ?_)
        have b781 : (y778).toInt = ((g10) (1 : Int32).toNatClampNeg).toInt := by rw [ey779]
        have b780 : hq_ir (hq_lo 8) (hq_hi 8) y778 := by rw [ey779]; exact hf12 _ (by decide)
        have b780 : 0 ≤ (y778).toInt ∧ (y778).toInt ≤ 60 := b780
        refine lv_bipush (v := 60) hx hb dX13_readLine_97 (by decide) ?_
        refine lv_icmp_ne (tgt := 108) hx hb dX13_readLine_99 (by decide) (fun c782 => ?_) (fun c782 => ?_)
        · have c782 : ¬ (y778).toInt = (60 : Int) := fun h9 => c782 (hq_eqi.mpr h9)
          refine lv_bipush (v := 60) hx hb dX13_readLine_108 (by decide) ?_
          refine lv_aload_n hx hb dX13_readLine_110 rfl (lv_at hl 1 rfl) ?_
          refine hp_get (v := .ref (q + 2)) hx hb hts hown hZ ho37 fl_X13_10 rfl dX13_readLine_111 ?_
          refine lv_iconst (v := 1) hx hb dX13_readLine_114 (by decide) ?_
          refine hp_iald hx hb hZ fx777 (by unfold vp_in; decide) dX13_readLine_115 ?_
          refine lv_topi (fun y783 ey784 => ?_)
          have b786 : (y783).toInt = ((g10) (1 : Int32).toNatClampNeg).toInt := by rw [ey784]
          have b785 : hq_ir (hq_lo 8) (hq_hi 8) y783 := by rw [ey784]; exact hf12 _ (by decide)
          have b785 : 0 ≤ (y783).toInt ∧ (y783).toInt ≤ 60 := b785
          refine lv_iadd hx hb dX13_readLine_116 ?_
          refine lv_topi (fun y787 ey788 => ?_)
          obtain ⟨k789, hk790, b791, b792⟩ := hq_add (60) (y783)
          rw [← ey788] at hk790 b791 b792
          have hk790 : (y787).toInt = (60 : Int) + (y783).toInt + k789 * 4294967296 := hk790
          obtain rfl : k789 = 0 := by omega
          refine lv_istore_n (lv' := [(2, .int (y787)), (1, .int (2)), (0, .ref (mo))]) hx hb dX13_readLine_117 rfl hl (by decide) rfl (fun ls hl => ?_)
          refine lv_aload_n hx hb dX13_readLine_118 rfl (lv_at hl 2 rfl) ?_
          refine hp_get (v := .ref (q + 10)) hx hb hts hown hZ ho37 fl_X13_29 rfl dX13_readLine_119 ?_
          refine lv_iload_n hx hb dX13_readLine_122 rfl (lv_at hl 0 rfl) ?_
          refine lv_iload_n hx hb dX13_readLine_123 rfl (lv_at hl 1 rfl) ?_
          have fx793 : V31 (q + 10) = some (.inl (cs 1, 120, .inl (g2))) := (hq35.2 (q + 10) _ (hr_10 hR) rfl).trans ((hq26.2 (q + 10) _ (hr_10 hR) rfl).trans ((hq17.2 (q + 10) _ (hr_10 hR) rfl).trans (eV1)))
          refine hp_iast hx hb hZ fx793 (hq_in (by omega) (by omega)) dX13_readLine_124 (fun V794 _ _ e795 o796 hZ => ?_)
          have e795 : V794 (q + 10) = some (.inl (cs 1, 120, .inl (upd (g2) ((y787 : Int32).toNatClampNeg) (2)))) := e795
          have hl797 : (2 : Int32).toInt = 2 := by decide
          have hP := hP.put (hr_10 hR) e795 o796 (hq_c21 (by omega) (hq_upd hf4 (hq_rng _))) rfl
          obtain ⟨g798, ge799⟩ : ∃ g9 : Nat → Int32, g9 = upd (g2) ((y787 : Int32).toNatClampNeg) (2) := ⟨_, rfl⟩
          have fx801 : V794 (q + 10) = some (.inl (cs 1, 120, .inl (g798))) := by rw [ge799]; exact e795
          have hf800 := hq_rg hP.1 (hr_10 hR) fx801
          have b802 : (g798 (y787 : Int32).toNatClampNeg).toInt = (2 : Int32).toInt := congrArg Int32.toInt ((congrFun ge799 _).trans hm_ue)
          have b803 : (2 : Int32).toInt = 2 := by decide
          refine lv_aload_n hx hb dX13_readLine_125 rfl (lv_at hl 2 rfl) ?_
          have fx804 : V794 (mo) = some (.inr (13, hm_o q (m_tp) (m_sz) (m_fr) (m_bh) (m_hd) (m_ft) (m_fa) (m_le) (m_fo) (m_as) (m_fd) (m_bc) (m_bg) (m_bs) (m_be) (m_b0) (m_b1) (m_cm) (m_hc))) := (o796 (mo) (hq_tne h_mo (hr_10 hR) (by simp))).trans (ho37)
          refine hp_get (v := .ref (q + 11)) hx hb hts hown hZ fx804 fl_X13_32 rfl dX13_readLine_126 ?_
          refine lv_iload_n hx hb dX13_readLine_129 rfl (lv_at hl 0 rfl) ?_
          refine lv_iconst (v := -1) hx hb dX13_readLine_130 (by decide) ?_
          obtain ⟨hN807, g806, eV805, hf808⟩ := hq_o21 hP.1 (hr_11 hR)
          refine hp_iast hx hb hZ eV805 (hq_in (by omega) (by omega)) dX13_readLine_131 (fun V809 _ _ e810 o811 hZ => ?_)
          have e810 : V809 (q + 11) = some (.inl (cs 1, 120, .inl (upd (g806) ((y787 : Int32).toNatClampNeg) (-1)))) := e810
          have hl812 : (-1 : Int32).toInt = -1 := by decide
          have hP := hP.put (hr_11 hR) e810 o811 (hq_c21 (by omega) (hq_upd hf808 (hq_rng _))) rfl
          refine lv_aload_n hx hb dX13_readLine_132 rfl (lv_at hl 2 rfl) ?_
          have fx813 : V809 (mo) = some (.inr (13, hm_o q (m_tp) (m_sz) (m_fr) (m_bh) (m_hd) (m_ft) (m_fa) (m_le) (m_fo) (m_as) (m_fd) (m_bc) (m_bg) (m_bs) (m_be) (m_b0) (m_b1) (m_cm) (m_hc))) := (o811 (mo) (hq_tne h_mo (hr_11 hR) (by simp))).trans (fx804)
          refine hp_get (v := .ref (q + 12)) hx hb hts hown hZ fx813 fl_X13_35 rfl dX13_readLine_133 ?_
          refine lv_iload_n hx hb dX13_readLine_136 rfl (lv_at hl 0 rfl) ?_
          refine lv_iconst (v := -1) hx hb dX13_readLine_137 (by decide) ?_
          obtain ⟨hN816, g815, eV814, hf817⟩ := hq_o21 hP.1 (hr_12 hR)
          refine hp_iast hx hb hZ eV814 (hq_in (by omega) (by omega)) dX13_readLine_138 (fun V818 _ _ e819 o820 hZ => ?_)
          have e819 : V818 (q + 12) = some (.inl (cs 1, 120, .inl (upd (g815) ((y787 : Int32).toNatClampNeg) (-1)))) := e819
          have hl821 : (-1 : Int32).toInt = -1 := by decide
          have hP := hP.put (hr_12 hR) e819 o820 (hq_c21 (by omega) (hq_upd hf817 (hq_rng _))) rfl
          refine lv_aload_n hx hb dX13_readLine_139 rfl (lv_at hl 2 rfl) ?_
          have fx822 : V818 (mo) = some (.inr (13, hm_o q (m_tp) (m_sz) (m_fr) (m_bh) (m_hd) (m_ft) (m_fa) (m_le) (m_fo) (m_as) (m_fd) (m_bc) (m_bg) (m_bs) (m_be) (m_b0) (m_b1) (m_cm) (m_hc))) := (o820 (mo) (hq_tne h_mo (hr_12 hR) (by simp))).trans (fx813)
          refine hp_get (v := .ref (q + 13)) hx hb hts hown hZ fx822 fl_X13_38 rfl dX13_readLine_140 ?_
          refine lv_iload_n hx hb dX13_readLine_143 rfl (lv_at hl 0 rfl) ?_
          refine lv_iconst (v := -1) hx hb dX13_readLine_144 (by decide) ?_
          obtain ⟨hN825, g824, eV823, hf826⟩ := hq_o21 hP.1 (hr_13 hR)
          refine hp_iast hx hb hZ eV823 (hq_in (by omega) (by omega)) dX13_readLine_145 (fun V827 _ _ e828 o829 hZ => ?_)
          have e828 : V827 (q + 13) = some (.inl (cs 1, 120, .inl (upd (g824) ((y787 : Int32).toNatClampNeg) (-1)))) := e828
          have hl830 : (-1 : Int32).toInt = -1 := by decide
          have hP := hP.put (hr_13 hR) e828 o829 (hq_c21 (by omega) (hq_upd hf826 (hq_rng _))) rfl
          refine lv_aload_n hx hb dX13_readLine_146 rfl (lv_at hl 2 rfl) ?_
          have fx831 : V827 (mo) = some (.inr (13, hm_o q (m_tp) (m_sz) (m_fr) (m_bh) (m_hd) (m_ft) (m_fa) (m_le) (m_fo) (m_as) (m_fd) (m_bc) (m_bg) (m_bs) (m_be) (m_b0) (m_b1) (m_cm) (m_hc))) := (o829 (mo) (hq_tne h_mo (hr_13 hR) (by simp))).trans (fx822)
          refine hp_get (v := .ref (q + 14)) hx hb hts hown hZ fx831 fl_X13_41 rfl dX13_readLine_147 ?_
          refine lv_iload_n hx hb dX13_readLine_150 rfl (lv_at hl 0 rfl) ?_
          refine lv_iconst (v := 0) hx hb dX13_readLine_151 (by decide) ?_
          have fx832 : V827 (q + 14) = some (.inl (cs 1, 120, .inl (g6))) := (o829 (q + 14) (hq_ne q 14 13 (by decide))).trans ((o820 (q + 14) (hq_ne q 14 12 (by decide))).trans ((o811 (q + 14) (hq_ne q 14 11 (by decide))).trans ((o796 (q + 14) (hq_ne q 14 10 (by decide))).trans ((hq35.2 (q + 14) _ (hr_14 hR) rfl).trans ((hq26.2 (q + 14) _ (hr_14 hR) rfl).trans ((hq17.2 (q + 14) _ (hr_14 hR) rfl).trans (eV5)))))))
          refine hp_iast hx hb hZ fx832 (hq_in (by omega) (by omega)) dX13_readLine_152 (fun V833 _ _ e834 o835 hZ => ?_)
          have e834 : V833 (q + 14) = some (.inl (cs 1, 120, .inl (upd (g6) ((y787 : Int32).toNatClampNeg) (0)))) := e834
          have hl836 : (0 : Int32).toInt = 0 := by decide
          have hP := hP.put (hr_14 hR) e834 o835 (hq_c21 (by omega) (hq_upd hf8 (show 0 ≤ _ ∧ _ ≤ 8 by constructor <;> omega))) rfl
          obtain ⟨g837, ge838⟩ : ∃ g9 : Nat → Int32, g9 = upd (g6) ((y787 : Int32).toNatClampNeg) (0) := ⟨_, rfl⟩
          have fx840 : V833 (q + 14) = some (.inl (cs 1, 120, .inl (g837))) := by rw [ge838]; exact e834
          have hf839 := hq_rg hP.1 (hr_14 hR) fx840
          have b841 : (g837 (y787 : Int32).toNatClampNeg).toInt = (0 : Int32).toInt := congrArg Int32.toInt ((congrFun ge838 _).trans hm_ue)
          have b842 : (0 : Int32).toInt = 0 := by decide
          refine lv_aload_n hx hb dX13_readLine_153 rfl (lv_at hl 2 rfl) ?_
          have fx843 : V833 (mo) = some (.inr (13, hm_o q (m_tp) (m_sz) (m_fr) (m_bh) (m_hd) (m_ft) (m_fa) (m_le) (m_fo) (m_as) (m_fd) (m_bc) (m_bg) (m_bs) (m_be) (m_b0) (m_b1) (m_cm) (m_hc))) := (o835 (mo) (hq_tne h_mo (hr_14 hR) (by simp))).trans (fx831)
          refine hp_get (v := .ref (q + 15)) hx hb hts hown hZ fx843 fl_X13_44 rfl dX13_readLine_154 ?_
          refine lv_iload_n hx hb dX13_readLine_157 rfl (lv_at hl 0 rfl) ?_
          refine lv_iconst (v := 0) hx hb dX13_readLine_158 (by decide) ?_
          obtain ⟨hN846, g845, eV844, hf847⟩ := hq_o21 hP.1 (hr_15 hR)
          refine hp_iast hx hb hZ eV844 (hq_in (by omega) (by omega)) dX13_readLine_159 (fun V848 _ _ e849 o850 hZ => ?_)
          have e849 : V848 (q + 15) = some (.inl (cs 1, 120, .inl (upd (g845) ((y787 : Int32).toNatClampNeg) (0)))) := e849
          have hl851 : (0 : Int32).toInt = 0 := by decide
          have hP := hP.put (hr_15 hR) e849 o850 (hq_c21 (by omega) (hq_upd hf847 (show 0 ≤ _ ∧ _ ≤ 8 by constructor <;> omega))) rfl
          refine lv_aload_n hx hb dX13_readLine_160 rfl (lv_at hl 2 rfl) ?_
          have fx852 : V848 (mo) = some (.inr (13, hm_o q (m_tp) (m_sz) (m_fr) (m_bh) (m_hd) (m_ft) (m_fa) (m_le) (m_fo) (m_as) (m_fd) (m_bc) (m_bg) (m_bs) (m_be) (m_b0) (m_b1) (m_cm) (m_hc))) := (o850 (mo) (hq_tne h_mo (hr_15 hR) (by simp))).trans (fx843)
          refine hp_get (v := .ref (q + 16)) hx hb hts hown hZ fx852 fl_X13_47 rfl dX13_readLine_161 ?_
          refine lv_iload_n hx hb dX13_readLine_164 rfl (lv_at hl 0 rfl) ?_
          refine lv_iconst (v := 0) hx hb dX13_readLine_165 (by decide) ?_
          obtain ⟨hN855, g854, eV853, hf856⟩ := hq_o21 hP.1 (hr_16 hR)
          refine hp_iast hx hb hZ eV853 (hq_in (by omega) (by omega)) dX13_readLine_166 (fun V857 _ _ e858 o859 hZ => ?_)
          have e858 : V857 (q + 16) = some (.inl (cs 1, 120, .inl (upd (g854) ((y787 : Int32).toNatClampNeg) (0)))) := e858
          have hl860 : (0 : Int32).toInt = 0 := by decide
          have hP := hP.put (hr_16 hR) e858 o859 (hq_c21 (by omega) (hq_upd hf856 (show 0 ≤ _ ∧ _ ≤ 29 by constructor <;> omega))) rfl
          refine lv_aload_n hx hb dX13_readLine_167 rfl (lv_at hl 2 rfl) ?_
          have fx867 : V857 (mo) = some (.inr (13, hm_o q (m_tp) (m_sz) (m_fr) (m_bh) (m_hd) (m_ft) (m_fa) (m_le) (m_fo) (m_as) (m_fd) (m_bc) (m_bg) (m_bs) (m_be) (m_b0) (m_b1) (m_cm) (m_hc))) := (o859 (mo) (hq_tne h_mo (hr_16 hR) (by simp))).trans (fx852)
          refine hp_callv (hp_runV (As := []) (rest := []) hx hb hml hown hts (t_X13_scan l D cs B G  V857 n hP.1 q hR (mo) h_mo fx867  (by omega) (by omega) (by omega) (by omega) (by omega) (by omega) (by omega) (by omega) (hm_SC.s0 (by assumption)) (hm_SC.s1 (by assumption) (by first | omega | (have h8 := hm_Is.hd (by assumption) (by omega); omega)))) hZ fx867 cv_X13_111 rfl rfl ⟨Nat.le_of_ble_eq_true rfl, Nat.le_of_ble_eq_true rfl⟩ rfl hl.1 rfl (Nat.le_of_ble_eq_true rfl) dX13_readLine_168 ⟨(Nat.le_of_ble_eq_true rfl), (Nat.le_of_ble_eq_true rfl)⟩) hZ (fun V861 n862 _ _ hw863 hZ => ?_)
          obtain ⟨rfl, hq865, ⟨z868, z869, z870, ho871, hi872, hi873, hi874⟩⟩ := hw863
          have hP := hP.trans hq865 (by intro g h; simp_all)
          have b875 := hq_rng z868
          have b876 := hq_rng z869
          have b877 := hq_rng z870
          refine lv_iload_n hx hb dX13_readLine_171 rfl (lv_at hl 1 rfl) ?_
          refine lv_iconst (v := 4) hx hb dX13_readLine_172 (by decide) ?_
          refine lv_icmp_eq (tgt := 181) hx hb dX13_readLine_173 (by decide) (fun c878 => absurd c878 (by decide)) (fun c878 => ?_)
          refine lv_iload_n hx hb dX13_readLine_176 rfl (lv_at hl 1 rfl) ?_
          refine lv_iconst (v := 5) hx hb dX13_readLine_177 (by decide) ?_
          refine lv_icmp_ne (tgt := 194) hx hb dX13_readLine_178 (by decide) (fun c879 => ?_) (fun c879 => absurd c879 (by decide))
          refine lv_iload_n hx hb dX13_readLine_194 rfl (lv_at hl 1 rfl) ?_
          refine lv_iconst (v := 2) hx hb dX13_readLine_195 (by decide) ?_
          refine lv_icmp_eq (tgt := 204) hx hb dX13_readLine_196 (by decide) (fun c880 => ?_) (fun c880 => absurd (by decide) c880)
          refine lv_iload_n hx hb dX13_readLine_204 rfl (lv_at hl 1 rfl) ?_
          refine lv_iconst (v := 2) hx hb dX13_readLine_205 (by decide) ?_
          refine lv_icmp_eq (tgt := 219) hx hb dX13_readLine_206 (by decide) (fun c881 => ?_) (fun c881 => absurd (by decide) c881)
          refine lv_iload_n hx hb dX13_readLine_219 rfl (lv_at hl 1 rfl) ?_
          refine lv_iconst (v := 3) hx hb dX13_readLine_220 (by decide) ?_
          refine lv_icmp_ne (tgt := 229) hx hb dX13_readLine_221 (by decide) (fun c882 => ?_) (fun c882 => absurd c882 (by decide))
          refine lv_iload_n hx hb dX13_readLine_229 rfl (lv_at hl 1 rfl) ?_
          refine lv_if_eq (tgt := 248) hx hb dX13_readLine_230 (by decide) (fun c883 => absurd c883 (by decide)) (fun c883 => ?_)
          refine lv_iload_n hx hb dX13_readLine_233 rfl (lv_at hl 1 rfl) ?_
          refine lv_iconst (v := 1) hx hb dX13_readLine_234 (by decide) ?_
          refine lv_icmp_eq (tgt := 248) hx hb dX13_readLine_235 (by decide) (fun c884 => absurd c884 (by decide)) (fun c884 => ?_)
          refine lv_iload_n hx hb dX13_readLine_238 rfl (lv_at hl 1 rfl) ?_
          refine lv_iconst (v := 2) hx hb dX13_readLine_239 (by decide) ?_
          refine lv_icmp_eq (tgt := 248) hx hb dX13_readLine_240 (by decide) (fun c885 => ?_) (fun c885 => absurd (by decide) c885)
          refine lv_aload_n hx hb dX13_readLine_248 rfl (lv_at hl 2 rfl) ?_
          refine hp_get (v := .int (z870)) hx hb hts hown hZ ho871 fl_X13_83 rfl dX13_readLine_249 ?_
          refine lv_iconst (v := 3) hx hb dX13_readLine_252 (by decide) ?_
          refine lv_icmp_eq (tgt := 262) hx hb dX13_readLine_253 (by decide) (fun c886 => ?_) (fun c886 => ?_)
          · have c886 : (z870).toInt = (3 : Int) := hq_eqi.mp c886
            refine lv_iload_n hx hb dX13_readLine_262 rfl (lv_at hl 1 rfl) ?_
            refine lv_iconst (v := 4) hx hb dX13_readLine_263 (by decide) ?_
            refine lv_icmp_ne (tgt := 282) hx hb dX13_readLine_264 (by decide) (fun c887 => ?_) (fun c887 => absurd c887 (by decide))
            refine lv_iload_n hx hb dX13_readLine_282 rfl (lv_at hl 1 rfl) ?_
            refine lv_iconst (v := 1) hx hb dX13_readLine_283 (by decide) ?_
            refine lv_icmp_eq (tgt := 306) hx hb dX13_readLine_284 (by decide) (fun c888 => absurd c888 (by decide)) (fun c888 => ?_)
            have h3b := hm_SC.a3 (by assumption : hm_SC m_sz z868 z869 z870) (by omega)
            refine lv_aload_n hx hb dX13_readLine_287 rfl (lv_at hl 2 rfl) ?_
            refine hp_get (v := .int (z869)) hx hb hts hown hZ ho871 fl_X13_76 rfl dX13_readLine_288 ?_
            refine lv_aload_n hx hb dX13_readLine_291 rfl (lv_at hl 2 rfl) ?_
            refine hp_get (v := .int (z868)) hx hb hts hown hZ ho871 fl_X13_60 rfl dX13_readLine_292 ?_
            refine lv_isub hx hb dX13_readLine_295 ?_
            refine lv_topi (fun y889 ey890 => ?_)
            obtain ⟨k891, hk892, b893, b894⟩ := hq_sub (z869) (z868)
            rw [← ey890] at hk892 b893 b894
            have hk892 : (y889).toInt = (z869).toInt - (z868).toInt + k891 * 4294967296 := hk892
            obtain rfl : k891 = 0 := by omega
            refine lv_iconst (v := 2) hx hb dX13_readLine_296 (by decide) ?_
            refine lv_icmp_ne (tgt := 306) hx hb dX13_readLine_297 (by decide) (fun c895 => ?_) (fun c895 => ?_)
            · have c895 : ¬ (y889).toInt = (2 : Int) := fun h9 => c895 (hq_eqi.mpr h9)
              refine lv_aload_n hx hb dX13_readLine_306 rfl (lv_at hl 2 rfl) ?_
              refine hp_get (v := .ref (q + 14)) hx hb hts hown hZ ho871 fl_X13_41 rfl dX13_readLine_307 ?_
              refine lv_iload_n hx hb dX13_readLine_310 rfl (lv_at hl 0 rfl) ?_
              refine lv_aload_n hx hb dX13_readLine_311 rfl (lv_at hl 2 rfl) ?_
              refine lv_aload_n hx hb dX13_readLine_312 rfl (lv_at hl 2 rfl) ?_
              refine hp_get (v := .ref (q + 5)) hx hb hts hown hZ ho871 fl_X13_23 rfl dX13_readLine_313 ?_
              refine lv_iload_n hx hb dX13_readLine_316 rfl (lv_at hl 0 rfl) ?_
              have h3a := hm_SC.a3 (by assumption : hm_SC m_sz z868 z869 z870) (by omega)
              refine hp_calli (hp_runV (As := [.ref (q + 5), .int (y787)]) (rest := [.int (y787), .ref (q + 14)]) hx hb hml hown hts (t_X13_takeLetters l D cs B G  V861 n hP.1 q hR (mo) h_mo (q + 5) (hr_5 hR) (y787) ho871  (by omega) (by omega) (by omega) (by omega) (by omega) (by omega) (by omega) (by omega) (by assumption) (by omega) (by omega) (by omega)) hZ ho871 cv_X13_198 rfl rfl ⟨Nat.le_of_ble_eq_true rfl, Nat.le_of_ble_eq_true rfl⟩ rfl hl.1 rfl (Nat.le_of_ble_eq_true rfl) dX13_readLine_317 ⟨(Nat.le_of_ble_eq_true rfl), (Nat.le_of_ble_eq_true rfl)⟩) hZ (fun r899 V896 n897 _ _ hw898 hZ => ?_)
              obtain ⟨rfl, hq900, ⟨z902, z903, z904, ho905, hi906, hi907⟩, hr901⟩ := hw898
              have hP := hP.trans hq900 (by intro g h; simp_all)
              have b908 := hq_rng z902
              have b909 := hq_rng z903
              have b910 := hq_rng z904
              have b911 := hq_rng r899
              have fx912 : V896 (q + 14) = some (.inl (cs 1, 120, .inl (g837))) := (hq900.2 (q + 14) _ (hr_14 hR) rfl).trans ((hq865.2 (q + 14) _ (hr_14 hR) rfl).trans ((o859 (q + 14) (hq_ne q 14 16 (by decide))).trans ((o850 (q + 14) (hq_ne q 14 15 (by decide))).trans (fx840))))
              refine hp_iast hx hb hZ fx912 (hq_in (by omega) (by omega)) dX13_readLine_320 (fun V913 _ _ e914 o915 hZ => ?_)
              have e914 : V913 (q + 14) = some (.inl (cs 1, 120, .inl (upd (g837) ((y787 : Int32).toNatClampNeg) (r899)))) := e914
              have hP := hP.put (hr_14 hR) e914 o915 (hq_c21 (by omega) (hq_upd hf839 (show 0 ≤ _ ∧ _ ≤ 8 by constructor <;> omega))) rfl
              obtain ⟨g916, ge917⟩ : ∃ g9 : Nat → Int32, g9 = upd (g837) ((y787 : Int32).toNatClampNeg) (r899) := ⟨_, rfl⟩
              have fx919 : V913 (q + 14) = some (.inl (cs 1, 120, .inl (g916))) := by rw [ge917]; exact e914
              have hf918 := hq_rg hP.1 (hr_14 hR) fx919
              have b920 : (g916 (y787 : Int32).toNatClampNeg).toInt = (r899 : Int32).toInt := congrArg Int32.toInt ((congrFun ge917 _).trans hm_ue)
              refine lv_iload_n hx hb dX13_readLine_321 rfl (lv_at hl 1 rfl) ?_
              refine lv_if_eq (tgt := 330) hx hb dX13_readLine_322 (by decide) (fun c921 => absurd c921 (by decide)) (fun c921 => ?_)
              refine lv_iload_n hx hb dX13_readLine_325 rfl (lv_at hl 1 rfl) ?_
              refine lv_iconst (v := 2) hx hb dX13_readLine_326 (by decide) ?_
              refine lv_icmp_ne (tgt := 365) hx hb dX13_readLine_327 (by decide) (fun c922 => absurd (by decide) c922) (fun c922 => ?_)
              refine lv_aload_n hx hb dX13_readLine_330 rfl (lv_at hl 2 rfl) ?_
              refine va_ldcS (tx := (hp_so.getD 5 ("", 0, "")).2.2) (q := cs (100 + 5)) hx hb hown (hZ.2.2.2.2.2.2.2.2.2.2 5 (by decide)) dX13_readLine_331 ?_
              have fx929 : V913 (mo) = some (.inr (13, hm_o q (m_tp) (m_sz) (z902) (z903) (z904) (m_ft) (m_fa) (m_le) (m_fo) (m_as) (m_fd) (m_bc) (m_bg) (m_bs) (m_be) (m_b0) (m_b1) (m_cm) (m_hc))) := (o915 (mo) (hq_tne h_mo (hr_14 hR) (by simp))).trans (ho905)
              have fx938 : V913 (q + 10) = some (.inl (cs 1, 120, .inl (g798))) := (o915 (q + 10) (hq_ne q 10 14 (by decide))).trans ((hq900.2 (q + 10) _ (hr_10 hR) rfl).trans ((hq865.2 (q + 10) _ (hr_10 hR) rfl).trans ((o859 (q + 10) (hq_ne q 10 16 (by decide))).trans ((o850 (q + 10) (hq_ne q 10 15 (by decide))).trans ((o835 (q + 10) (hq_ne q 10 14 (by decide))).trans ((o829 (q + 10) (hq_ne q 10 13 (by decide))).trans ((o820 (q + 10) (hq_ne q 10 12 (by decide))).trans ((o811 (q + 10) (hq_ne q 10 11 (by decide))).trans (fx801)))))))))
              have fx939 : V913 (q + 2) = some (.inl (cs 1, 2, .inl (g10))) := (o915 (q + 2) (hq_ne q 2 14 (by decide))).trans ((hq900.2 (q + 2) _ (hr_2 hR) rfl).trans ((hq865.2 (q + 2) _ (hr_2 hR) rfl).trans ((o859 (q + 2) (hq_ne q 2 16 (by decide))).trans ((o850 (q + 2) (hq_ne q 2 15 (by decide))).trans ((o835 (q + 2) (hq_ne q 2 14 (by decide))).trans ((o829 (q + 2) (hq_ne q 2 13 (by decide))).trans ((o820 (q + 2) (hq_ne q 2 12 (by decide))).trans ((o811 (q + 2) (hq_ne q 2 11 (by decide))).trans ((o796 (q + 2) (hq_ne q 2 10 (by decide))).trans (fx777))))))))))
              refine hq_callx (hq_runV (As := [.ref (cs (100 + 5))]) (rest := []) hx hb hml hown hts (t_X13_need l D cs B G  V913 n hP.1 q hR (mo) h_mo 5 (by decide) fx929  (by omega) (by omega) (by omega) (by omega) (by omega) (by omega) (by omega) (by omega) (by assumption) ) hZ fx929 cv_X13_172 rfl rfl ⟨Nat.le_of_ble_eq_true rfl, Nat.le_of_ble_eq_true rfl⟩ rfl hl.1 rfl (Nat.le_of_ble_eq_true rfl) dX13_readLine_333 ⟨(Nat.le_of_ble_eq_true rfl), (Nat.le_of_ble_eq_true rfl)⟩) hZ hnx hlocks (by rintro x9 V9 n9 ⟨rfl, rfl, hq9, ⟨z930x, z931x, z932x, z933x, z934x, hox0, hix00, hix01⟩⟩; have hbxz930 := hq_rng z930x; have hbxz931 := hq_rng z931x; have hbxz932 := hq_rng z932x; have hbxz933 := hq_rng z933x; have hbxz934 := hq_rng z934x; exact ⟨rfl, rfl, hP.trans hq9 (by intro g h; simp_all), ⟨z930x, z931x, z932x, z933x, z934x, hox0, by assumption, by omega⟩, ((hm_JH.of eV1 eV5 eV9 fx938 fx919 fx939 (fun j hj => (congrFun ge799 j).trans (hm_ub (by omega) hj)) (fun j hj => ((congrFun ge917 j).trans (hm_ub (by omega) hj)).trans ((congrFun ge838 j).trans (hm_ub (by omega) hj))) rfl (hq_rg hI (hr_2 hR) eV9 0 (by decide)).2)).keep hR (fun x t hx hg => hq9.2 x t hx (by simp [hg]))⟩) (fun v9 V923 n924 _ _ hw925 hZ => ?_)
              obtain ⟨rfl, rfl, hq927, ⟨z930, z931, z932, z933, z934, ho935, hi936, hi937⟩⟩ := hw925
              refine W.eq (g2 := F0 m 336 ls []) rfl ?_
              have hP := hP.trans hq927 (by intro g h; simp_all)
              have b940 := hq_rng z930
              have b941 := hq_rng z931
              have b942 := hq_rng z932
              have b943 := hq_rng z933
              have b944 := hq_rng z934
              refine lv_aload_n hx hb dX13_readLine_336 rfl (lv_at hl 2 rfl) ?_
              refine hp_get (v := .int (z932)) hx hb hts hown hZ ho935 fl_X13_83 rfl dX13_readLine_337 ?_
              refine lv_iconst (v := 3) hx hb dX13_readLine_340 (by decide) ?_
              refine lv_icmp_eq (tgt := 350) hx hb dX13_readLine_341 (by decide) (fun c945 => ?_) (fun c945 => ?_)
              · have c945 : (z932).toInt = (3 : Int) := hq_eqi.mp c945
                refine lv_aload_n hx hb dX13_readLine_350 rfl (lv_at hl 2 rfl) ?_
                refine hp_get (v := .ref (q + 15)) hx hb hts hown hZ ho935 fl_X13_44 rfl dX13_readLine_351 ?_
                refine lv_iload_n hx hb dX13_readLine_354 rfl (lv_at hl 0 rfl) ?_
                refine lv_aload_n hx hb dX13_readLine_355 rfl (lv_at hl 2 rfl) ?_
                refine lv_aload_n hx hb dX13_readLine_356 rfl (lv_at hl 2 rfl) ?_
                refine hp_get (v := .ref (q + 6)) hx hb hts hown hZ ho935 fl_X13_26 rfl dX13_readLine_357 ?_
                refine lv_iload_n hx hb dX13_readLine_360 rfl (lv_at hl 0 rfl) ?_
                have h3a := hm_SC.a3 (by assumption : hm_SC m_sz z930 z931 z932) (by omega)
                refine hp_calli (hp_runV (As := [.ref (q + 6), .int (y787)]) (rest := [.int (y787), .ref (q + 15)]) hx hb hml hown hts (t_X13_takeLetters l D cs B G  V923 n hP.1 q hR (mo) h_mo (q + 6) (hr_6 hR) (y787) ho935  (by omega) (by omega) (by omega) (by omega) (by omega) (by omega) (by omega) (by omega) (by assumption) (by omega) (by omega) (by omega)) hZ ho935 cv_X13_198 rfl rfl ⟨Nat.le_of_ble_eq_true rfl, Nat.le_of_ble_eq_true rfl⟩ rfl hl.1 rfl (Nat.le_of_ble_eq_true rfl) dX13_readLine_361 ⟨(Nat.le_of_ble_eq_true rfl), (Nat.le_of_ble_eq_true rfl)⟩) hZ (fun r949 V946 n947 _ _ hw948 hZ => ?_)
                obtain ⟨rfl, hq950, ⟨z952, z953, z954, ho955, hi956, hi957⟩, hr951⟩ := hw948
                have hP := hP.trans hq950 (by intro g h; simp_all)
                have b958 := hq_rng z952
                have b959 := hq_rng z953
                have b960 := hq_rng z954
                have b961 := hq_rng r949
                obtain ⟨hN964, g963, eV962, hf965⟩ := hq_o21 hP.1 (hr_15 hR)
                refine hp_iast hx hb hZ eV962 (hq_in (by omega) (by omega)) dX13_readLine_364 (fun V966 _ _ e967 o968 hZ => ?_)
                have e967 : V966 (q + 15) = some (.inl (cs 1, 120, .inl (upd (g963) ((y787 : Int32).toNatClampNeg) (r949)))) := e967
                have hP := hP.put (hr_15 hR) e967 o968 (hq_c21 (by omega) (hq_upd hf965 (show 0 ≤ _ ∧ _ ≤ 8 by constructor <;> omega))) rfl
                refine lv_iload_n hx hb dX13_readLine_365 rfl (lv_at hl 1 rfl) ?_
                refine lv_iconst (v := 2) hx hb dX13_readLine_366 (by decide) ?_
                refine lv_icmp_ne (tgt := 390) hx hb dX13_readLine_367 (by decide) (fun c969 => absurd (by decide) c969) (fun c969 => ?_)
                refine lv_aload_n hx hb dX13_readLine_370 rfl (lv_at hl 2 rfl) ?_
                refine va_ldcS (tx := (hp_so.getD 8 ("", 0, "")).2.2) (q := cs (100 + 8)) hx hb hown (hZ.2.2.2.2.2.2.2.2.2.2 8 (by decide)) dX13_readLine_371 ?_
                have fx976 : V966 (mo) = some (.inr (13, hm_o q (m_tp) (m_sz) (z952) (z953) (z954) (z933) (z934) (m_le) (m_fo) (m_as) (m_fd) (m_bc) (m_bg) (m_bs) (m_be) (m_b0) (m_b1) (m_cm) (m_hc))) := (o968 (mo) (hq_tne h_mo (hr_15 hR) (by simp))).trans (ho955)
                refine hp_calli (hp_runV (As := [.ref (cs (100 + 8))]) (rest := []) hx hb hml hown hts (t_X13_is l D cs B G  V966 n hP.1 q hR (mo) h_mo 8 (by decide) fx976  (by omega) (by omega) (by omega) (by omega) (by omega) (by omega) (by omega) (by omega) (by assumption) ) hZ fx976 cv_X13_103 rfl rfl ⟨Nat.le_of_ble_eq_true rfl, Nat.le_of_ble_eq_true rfl⟩ rfl hl.1 rfl (Nat.le_of_ble_eq_true rfl) dX13_readLine_373 ⟨(Nat.le_of_ble_eq_true rfl), (Nat.le_of_ble_eq_true rfl)⟩) hZ (fun r973 V970 n971 _ _ hw972 hZ => ?_)
                obtain ⟨rfl, hq974, ho977, hr975⟩ := hw972
                have hP := hP.trans hq974 (fun _ _ => rfl)
                have b978 := hq_rng r973
                refine lv_if_eq (tgt := 390) hx hb dX13_readLine_376 (by decide) (fun c979 => ?_) (fun c979 => ?_)
                · have c979 : (r973).toInt = (0 : Int) := hq_eqi.mp c979
                  refine lv_aload_n hx hb dX13_readLine_390 rfl (lv_at hl 2 rfl) ?_
                  refine hp_get (v := .ref (q + 2)) hx hb hts hown hZ ho977 fl_X13_10 rfl dX13_readLine_391 ?_
                  refine lv_iconst (v := 1) hx hb dX13_readLine_394 (by decide) ?_
                  refine lv_dup2_11 hx hb dX13_readLine_395 rfl rfl ?_
                  have fx980 : V970 (q + 2) = some (.inl (cs 1, 2, .inl (g10))) := (hq974.2 (q + 2) _ (hr_2 hR) rfl).trans ((o968 (q + 2) (hq_ne q 2 15 (by decide))).trans ((hq950.2 (q + 2) _ (hr_2 hR) rfl).trans ((hq927.2 (q + 2) _ (hr_2 hR) rfl).trans (fx939))))
                  refine hp_iald hx hb hZ fx980 (by unfold vp_in; decide) dX13_readLine_396 ?_
                  refine lv_topi (fun y981 ey982 => ?_)
                  have b984 : (y981).toInt = ((g10) (1 : Int32).toNatClampNeg).toInt := by rw [ey982]
                  have b983 : hq_ir (hq_lo 8) (hq_hi 8) y981 := by rw [ey982]; exact hf12 _ (by decide)
                  have b983 : 0 ≤ (y981).toInt ∧ (y981).toInt ≤ 60 := b983
                  refine lv_iconst (v := 1) hx hb dX13_readLine_397 (by decide) ?_
                  refine lv_iadd hx hb dX13_readLine_398 ?_
                  refine lv_topi (fun y985 ey986 => ?_)
                  obtain ⟨k987, hk988, b989, b990⟩ := hq_add (y981) (1)
                  rw [← ey986] at hk988 b989 b990
                  have hk988 : (y985).toInt = (y981).toInt + (1 : Int) + k987 * 4294967296 := hk988
                  obtain rfl : k987 = 0 := by omega
                  refine hp_iast hx hb hZ fx980 (by unfold vp_in; decide) dX13_readLine_399 (fun V991 _ _ e992 o993 hZ => ?_)
                  have e992 : V991 (q + 2) = some (.inl (cs 1, 2, .inl (upd (g10) ((1 : Int32).toNatClampNeg) (y985)))) := e992
                  have hP := hP.put (hr_2 hR) e992 o993 (hq_c21 (by omega) (hq_upd hf12 (show 0 ≤ _ ∧ _ ≤ 60 by constructor <;> omega))) rfl
                  obtain ⟨g994, ge995⟩ : ∃ g9 : Nat → Int32, g9 = upd (g10) ((1 : Int32).toNatClampNeg) (y985) := ⟨_, rfl⟩
                  have fx997 : V991 (q + 2) = some (.inl (cs 1, 2, .inl (g994))) := by rw [ge995]; exact e992
                  have hf996 := hq_rg hP.1 (hr_2 hR) fx997
                  have b998 : (g994 (1 : Int32).toNatClampNeg).toInt = (y985 : Int32).toInt := congrArg Int32.toInt ((congrFun ge995 _).trans hm_ue)
                  have fx999 : V991 (mo) = some (.inr (13, hm_o q (m_tp) (m_sz) (z952) (z953) (z954) (z933) (z934) (m_le) (m_fo) (m_as) (m_fd) (m_bc) (m_bg) (m_bs) (m_be) (m_b0) (m_b1) (m_cm) (m_hc))) := (o993 (mo) (hq_tne h_mo (hr_2 hR) (by simp))).trans (ho977)
                  have fx1000 : V991 (q + 10) = some (.inl (cs 1, 120, .inl (g798))) := (o993 (q + 10) (hq_ne q 10 2 (by decide))).trans ((hq974.2 (q + 10) _ (hr_10 hR) rfl).trans ((o968 (q + 10) (hq_ne q 10 15 (by decide))).trans ((hq950.2 (q + 10) _ (hr_10 hR) rfl).trans ((hq927.2 (q + 10) _ (hr_10 hR) rfl).trans (fx938)))))
                  have fx1001 : V991 (q + 14) = some (.inl (cs 1, 120, .inl (g916))) := (o993 (q + 14) (hq_ne q 14 2 (by decide))).trans ((hq974.2 (q + 14) _ (hr_14 hR) rfl).trans ((o968 (q + 14) (hq_ne q 14 15 (by decide))).trans ((hq950.2 (q + 14) _ (hr_14 hR) rfl).trans ((hq927.2 (q + 14) _ (hr_14 hR) rfl).trans (fx919)))))
                  exact hq_vret hx hb hr hlocks hZ ⟨rfl, rfl, hP, ⟨z952, z953, z954, z933, z934, fx999, by assumption, by omega⟩, ⟨(hm_JH.of eV1 eV5 eV9 fx1000 fx1001 fx997 (fun j hj => (congrFun ge799 j).trans (hm_ub (by omega) hj)) (fun j hj => ((congrFun ge917 j).trans (hm_ub (by omega) hj)).trans ((congrFun ge838 j).trans (hm_ub (by omega) hj))) ((congrFun ge995 0).trans (hm_un (by decide))) (hq_rg hI (hr_2 hR) eV9 0 (by decide)).2), (hm_JJ.of (l := y787) eV1 eV5 eV9 fx1000 fx1001 fx997 (by omega) (by omega) (fun j hj => (congrFun ge799 j).trans (hm_un hj)) (fun j hj => ((congrFun ge917 j).trans (hm_un hj)).trans ((congrFun ge838 j).trans (hm_un hj))) (by rw [show g994 (1 : Int32).toNatClampNeg = _ from (congrFun ge995 _).trans hm_ue]; omega) (fun _ => by rw [show g916 y787.toNatClampNeg = _ from (congrFun ge917 _).trans hm_ue]; omega))⟩⟩ dX13_readLine_400
                · have c979 : ¬ (r973).toInt = (0 : Int) := fun h9 => c979 (hq_eqi.mpr h9)
                  refine lv_aload_n hx hb dX13_readLine_379 rfl (lv_at hl 2 rfl) ?_
                  refine hp_get (v := .ref (q + 16)) hx hb hts hown hZ ho977 fl_X13_47 rfl dX13_readLine_380 ?_
                  refine lv_iload_n hx hb dX13_readLine_383 rfl (lv_at hl 0 rfl) ?_
                  refine lv_iconst (v := 1) hx hb dX13_readLine_384 (by decide) ?_
                  obtain ⟨hN1004, g1003, eV1002, hf1005⟩ := hq_o21 hP.1 (hr_16 hR)
                  refine hp_iast hx hb hZ eV1002 (hq_in (by omega) (by omega)) dX13_readLine_385 (fun V1006 _ _ e1007 o1008 hZ => ?_)
                  have e1007 : V1006 (q + 16) = some (.inl (cs 1, 120, .inl (upd (g1003) ((y787 : Int32).toNatClampNeg) (1)))) := e1007
                  have hl1009 : (1 : Int32).toInt = 1 := by decide
                  have hP := hP.put (hr_16 hR) e1007 o1008 (hq_c21 (by omega) (hq_upd hf1005 (show 0 ≤ _ ∧ _ ≤ 29 by constructor <;> omega))) rfl
                  refine lv_aload_n hx hb dX13_readLine_386 rfl (lv_at hl 2 rfl) ?_
                  have fx1016 : V1006 (mo) = some (.inr (13, hm_o q (m_tp) (m_sz) (z952) (z953) (z954) (z933) (z934) (m_le) (m_fo) (m_as) (m_fd) (m_bc) (m_bg) (m_bs) (m_be) (m_b0) (m_b1) (m_cm) (m_hc))) := (o1008 (mo) (hq_tne h_mo (hr_16 hR) (by simp))).trans (ho977)
                  refine hp_callv (hp_runV (As := []) (rest := []) hx hb hml hown hts (t_X13_scan l D cs B G  V1006 n hP.1 q hR (mo) h_mo fx1016  (by omega) (by omega) (by omega) (by omega) (by omega) (by omega) (by omega) (by omega) (hm_SC.s0 (by assumption)) (hm_SC.s1 (by assumption) (by first | omega | (have h8 := hm_Is.hd (by assumption) (by omega); omega)))) hZ fx1016 cv_X13_111 rfl rfl ⟨Nat.le_of_ble_eq_true rfl, Nat.le_of_ble_eq_true rfl⟩ rfl hl.1 rfl (Nat.le_of_ble_eq_true rfl) dX13_readLine_387 ⟨(Nat.le_of_ble_eq_true rfl), (Nat.le_of_ble_eq_true rfl)⟩) hZ (fun V1010 n1011 _ _ hw1012 hZ => ?_)
                  obtain ⟨rfl, hq1014, ⟨z1017, z1018, z1019, ho1020, hi1021, hi1022, hi1023⟩⟩ := hw1012
                  have hP := hP.trans hq1014 (by intro g h; simp_all)
                  have b1024 := hq_rng z1017
                  have b1025 := hq_rng z1018
                  have b1026 := hq_rng z1019
                  refine lv_aload_n hx hb dX13_readLine_390 rfl (lv_at hl 2 rfl) ?_
                  refine hp_get (v := .ref (q + 2)) hx hb hts hown hZ ho1020 fl_X13_10 rfl dX13_readLine_391 ?_
                  refine lv_iconst (v := 1) hx hb dX13_readLine_394 (by decide) ?_
                  refine lv_dup2_11 hx hb dX13_readLine_395 rfl rfl ?_
                  have fx1027 : V1010 (q + 2) = some (.inl (cs 1, 2, .inl (g10))) := (hq1014.2 (q + 2) _ (hr_2 hR) rfl).trans ((o1008 (q + 2) (hq_ne q 2 16 (by decide))).trans ((hq974.2 (q + 2) _ (hr_2 hR) rfl).trans ((o968 (q + 2) (hq_ne q 2 15 (by decide))).trans ((hq950.2 (q + 2) _ (hr_2 hR) rfl).trans ((hq927.2 (q + 2) _ (hr_2 hR) rfl).trans (fx939))))))
                  refine hp_iald hx hb hZ fx1027 (by unfold vp_in; decide) dX13_readLine_396 ?_
                  refine lv_topi (fun y1028 ey1029 => ?_)
                  have b1031 : (y1028).toInt = ((g10) (1 : Int32).toNatClampNeg).toInt := by rw [ey1029]
                  have b1030 : hq_ir (hq_lo 8) (hq_hi 8) y1028 := by rw [ey1029]; exact hf12 _ (by decide)
                  have b1030 : 0 ≤ (y1028).toInt ∧ (y1028).toInt ≤ 60 := b1030
                  refine lv_iconst (v := 1) hx hb dX13_readLine_397 (by decide) ?_
                  refine lv_iadd hx hb dX13_readLine_398 ?_
                  refine lv_topi (fun y1032 ey1033 => ?_)
                  obtain ⟨k1034, hk1035, b1036, b1037⟩ := hq_add (y1028) (1)
                  rw [← ey1033] at hk1035 b1036 b1037
                  have hk1035 : (y1032).toInt = (y1028).toInt + (1 : Int) + k1034 * 4294967296 := hk1035
                  obtain rfl : k1034 = 0 := by omega
                  refine hp_iast hx hb hZ fx1027 (by unfold vp_in; decide) dX13_readLine_399 (fun V1038 _ _ e1039 o1040 hZ => ?_)
                  have e1039 : V1038 (q + 2) = some (.inl (cs 1, 2, .inl (upd (g10) ((1 : Int32).toNatClampNeg) (y1032)))) := e1039
                  have hP := hP.put (hr_2 hR) e1039 o1040 (hq_c21 (by omega) (hq_upd hf12 (show 0 ≤ _ ∧ _ ≤ 60 by constructor <;> omega))) rfl
                  obtain ⟨g1041, ge1042⟩ : ∃ g9 : Nat → Int32, g9 = upd (g10) ((1 : Int32).toNatClampNeg) (y1032) := ⟨_, rfl⟩
                  have fx1044 : V1038 (q + 2) = some (.inl (cs 1, 2, .inl (g1041))) := by rw [ge1042]; exact e1039
                  have hf1043 := hq_rg hP.1 (hr_2 hR) fx1044
                  have b1045 : (g1041 (1 : Int32).toNatClampNeg).toInt = (y1032 : Int32).toInt := congrArg Int32.toInt ((congrFun ge1042 _).trans hm_ue)
                  have fx1046 : V1038 (mo) = some (.inr (13, hm_o q (m_tp) (m_sz) (z1017) (z1018) (z1019) (z933) (z934) (m_le) (m_fo) (m_as) (m_fd) (m_bc) (m_bg) (m_bs) (m_be) (m_b0) (m_b1) (m_cm) (m_hc))) := (o1040 (mo) (hq_tne h_mo (hr_2 hR) (by simp))).trans (ho1020)
                  have fx1047 : V1038 (q + 10) = some (.inl (cs 1, 120, .inl (g798))) := (o1040 (q + 10) (hq_ne q 10 2 (by decide))).trans ((hq1014.2 (q + 10) _ (hr_10 hR) rfl).trans ((o1008 (q + 10) (hq_ne q 10 16 (by decide))).trans ((hq974.2 (q + 10) _ (hr_10 hR) rfl).trans ((o968 (q + 10) (hq_ne q 10 15 (by decide))).trans ((hq950.2 (q + 10) _ (hr_10 hR) rfl).trans ((hq927.2 (q + 10) _ (hr_10 hR) rfl).trans (fx938)))))))
                  have fx1048 : V1038 (q + 14) = some (.inl (cs 1, 120, .inl (g916))) := (o1040 (q + 14) (hq_ne q 14 2 (by decide))).trans ((hq1014.2 (q + 14) _ (hr_14 hR) rfl).trans ((o1008 (q + 14) (hq_ne q 14 16 (by decide))).trans ((hq974.2 (q + 14) _ (hr_14 hR) rfl).trans ((o968 (q + 14) (hq_ne q 14 15 (by decide))).trans ((hq950.2 (q + 14) _ (hr_14 hR) rfl).trans ((hq927.2 (q + 14) _ (hr_14 hR) rfl).trans (fx919)))))))
                  exact hq_vret hx hb hr hlocks hZ ⟨rfl, rfl, hP, ⟨z1017, z1018, z1019, z933, z934, fx1046, by assumption, by omega⟩, ⟨(hm_JH.of eV1 eV5 eV9 fx1047 fx1048 fx1044 (fun j hj => (congrFun ge799 j).trans (hm_ub (by omega) hj)) (fun j hj => ((congrFun ge917 j).trans (hm_ub (by omega) hj)).trans ((congrFun ge838 j).trans (hm_ub (by omega) hj))) ((congrFun ge1042 0).trans (hm_un (by decide))) (hq_rg hI (hr_2 hR) eV9 0 (by decide)).2), (hm_JJ.of (l := y787) eV1 eV5 eV9 fx1047 fx1048 fx1044 (by omega) (by omega) (fun j hj => (congrFun ge799 j).trans (hm_un hj)) (fun j hj => ((congrFun ge917 j).trans (hm_un hj)).trans ((congrFun ge838 j).trans (hm_un hj))) (by rw [show g1041 (1 : Int32).toNatClampNeg = _ from (congrFun ge1042 _).trans hm_ue]; omega) (fun _ => by rw [show g916 y787.toNatClampNeg = _ from (congrFun ge917 _).trans hm_ue]; omega))⟩⟩ dX13_readLine_400
              · have c945 : ¬ (z932).toInt = (3 : Int) := fun h9 => c945 (hq_eqi.mpr h9)
                refine lv_aload_n hx hb dX13_readLine_344 rfl (lv_at hl 2 rfl) ?_
                refine lv_iconst (v := 1) hx hb dX13_readLine_345 (by decide) ?_
                have hl1058 : (1 : Int32).toInt = 1 := by decide
                refine hp_callq (hp_runV (As := [.int (1)]) (rest := []) hx hb hml hown hts (t_X13_wrong l D cs B G  V923 n hP.1 q hR (mo) h_mo (1) ho935  (by omega) (by omega) (by omega) (by omega) (by omega) (by omega) (by omega) (by omega) ) hZ ho935 cv_X13_107 rfl rfl ⟨Nat.le_of_ble_eq_true rfl, Nat.le_of_ble_eq_true rfl⟩ rfl hl.1 rfl (Nat.le_of_ble_eq_true rfl) dX13_readLine_346 ⟨(Nat.le_of_ble_eq_true rfl), (Nat.le_of_ble_eq_true rfl)⟩) hZ (fun r1052 V1049 n1050 _ _ hw1051 hZ => ?_)
                obtain ⟨rfl, hq1053, ⟨z1055, z1056, ho1057⟩, hr1054⟩ := hw1051
                have hP := hP.trans hq1053 (by intro g h; simp_all)
                have b1059 := hq_rng z1055
                have b1060 := hq_rng z1056
                subst hr1054
                refine W.eq (g2 := F0 m 349 ls [.ref (q + 19)]) rfl ?_
                have fx1061 : V1049 (q + 10) = some (.inl (cs 1, 120, .inl (g798))) := (hq1053.2 (q + 10) _ (hr_10 hR) rfl).trans ((hq927.2 (q + 10) _ (hr_10 hR) rfl).trans (fx938))
                have fx1062 : V1049 (q + 14) = some (.inl (cs 1, 120, .inl (g916))) := (hq1053.2 (q + 14) _ (hr_14 hR) rfl).trans ((hq927.2 (q + 14) _ (hr_14 hR) rfl).trans (fx919))
                have fx1063 : V1049 (q + 2) = some (.inl (cs 1, 2, .inl (g10))) := (hq1053.2 (q + 2) _ (hr_2 hR) rfl).trans ((hq927.2 (q + 2) _ (hr_2 hR) rfl).trans (fx939))
                exact hq_athrow hx hb hnx hlocks hZ ⟨rfl, rfl, hP, ⟨z930, z931, z932, z1055, z1056, ho1057, by assumption, by omega⟩, (hm_JH.of eV1 eV5 eV9 fx1061 fx1062 fx1063 (fun j hj => (congrFun ge799 j).trans (hm_ub (by omega) hj)) (fun j hj => ((congrFun ge917 j).trans (hm_ub (by omega) hj)).trans ((congrFun ge838 j).trans (hm_ub (by omega) hj))) rfl (hq_rg hI (hr_2 hR) eV9 0 (by decide)).2)⟩ dX13_readLine_349
            · have c895 : (y889).toInt = (2 : Int) := hq_eqi.mp c895
              refine lv_aload_n hx hb dX13_readLine_300 rfl (lv_at hl 2 rfl) ?_
              refine lv_iconst (v := 5) hx hb dX13_readLine_301 (by decide) ?_
              have hl1073 : (5 : Int32).toInt = 5 := by decide
              refine hp_callq (hp_runV (As := [.int (5)]) (rest := []) hx hb hml hown hts (t_X13_wrong l D cs B G  V861 n hP.1 q hR (mo) h_mo (5) ho871  (by omega) (by omega) (by omega) (by omega) (by omega) (by omega) (by omega) (by omega) ) hZ ho871 cv_X13_107 rfl rfl ⟨Nat.le_of_ble_eq_true rfl, Nat.le_of_ble_eq_true rfl⟩ rfl hl.1 rfl (Nat.le_of_ble_eq_true rfl) dX13_readLine_302 ⟨(Nat.le_of_ble_eq_true rfl), (Nat.le_of_ble_eq_true rfl)⟩) hZ (fun r1067 V1064 n1065 _ _ hw1066 hZ => ?_)
              obtain ⟨rfl, hq1068, ⟨z1070, z1071, ho1072⟩, hr1069⟩ := hw1066
              have hP := hP.trans hq1068 (by intro g h; simp_all)
              have b1074 := hq_rng z1070
              have b1075 := hq_rng z1071
              subst hr1069
              refine W.eq (g2 := F0 m 305 ls [.ref (q + 19)]) rfl ?_
              have fx1076 : V1064 (q + 10) = some (.inl (cs 1, 120, .inl (g798))) := (hq1068.2 (q + 10) _ (hr_10 hR) rfl).trans ((hq865.2 (q + 10) _ (hr_10 hR) rfl).trans ((o859 (q + 10) (hq_ne q 10 16 (by decide))).trans ((o850 (q + 10) (hq_ne q 10 15 (by decide))).trans ((o835 (q + 10) (hq_ne q 10 14 (by decide))).trans ((o829 (q + 10) (hq_ne q 10 13 (by decide))).trans ((o820 (q + 10) (hq_ne q 10 12 (by decide))).trans ((o811 (q + 10) (hq_ne q 10 11 (by decide))).trans (fx801))))))))
              have fx1077 : V1064 (q + 14) = some (.inl (cs 1, 120, .inl (g837))) := (hq1068.2 (q + 14) _ (hr_14 hR) rfl).trans ((hq865.2 (q + 14) _ (hr_14 hR) rfl).trans ((o859 (q + 14) (hq_ne q 14 16 (by decide))).trans ((o850 (q + 14) (hq_ne q 14 15 (by decide))).trans (fx840))))
              have fx1078 : V1064 (q + 2) = some (.inl (cs 1, 2, .inl (g10))) := (hq1068.2 (q + 2) _ (hr_2 hR) rfl).trans ((hq865.2 (q + 2) _ (hr_2 hR) rfl).trans ((o859 (q + 2) (hq_ne q 2 16 (by decide))).trans ((o850 (q + 2) (hq_ne q 2 15 (by decide))).trans ((o835 (q + 2) (hq_ne q 2 14 (by decide))).trans ((o829 (q + 2) (hq_ne q 2 13 (by decide))).trans ((o820 (q + 2) (hq_ne q 2 12 (by decide))).trans ((o811 (q + 2) (hq_ne q 2 11 (by decide))).trans ((o796 (q + 2) (hq_ne q 2 10 (by decide))).trans (fx777)))))))))
              exact hq_athrow hx hb hnx hlocks hZ ⟨rfl, rfl, hP, ⟨z868, z869, z870, z1070, z1071, ho1072, by assumption, by omega⟩, (hm_JH.of eV1 eV5 eV9 fx1076 fx1077 fx1078 (fun j hj => (congrFun ge799 j).trans (hm_ub (by omega) hj)) (fun j hj => (congrFun ge838 j).trans (hm_ub (by omega) hj)) rfl (hq_rg hI (hr_2 hR) eV9 0 (by decide)).2)⟩ dX13_readLine_305
          · have c886 : ¬ (z870).toInt = (3 : Int) := fun h9 => c886 (hq_eqi.mpr h9)
            refine lv_aload_n hx hb dX13_readLine_256 rfl (lv_at hl 2 rfl) ?_
            refine lv_iconst (v := 1) hx hb dX13_readLine_257 (by decide) ?_
            have hl1088 : (1 : Int32).toInt = 1 := by decide
            refine hp_callq (hp_runV (As := [.int (1)]) (rest := []) hx hb hml hown hts (t_X13_wrong l D cs B G  V861 n hP.1 q hR (mo) h_mo (1) ho871  (by omega) (by omega) (by omega) (by omega) (by omega) (by omega) (by omega) (by omega) ) hZ ho871 cv_X13_107 rfl rfl ⟨Nat.le_of_ble_eq_true rfl, Nat.le_of_ble_eq_true rfl⟩ rfl hl.1 rfl (Nat.le_of_ble_eq_true rfl) dX13_readLine_258 ⟨(Nat.le_of_ble_eq_true rfl), (Nat.le_of_ble_eq_true rfl)⟩) hZ (fun r1082 V1079 n1080 _ _ hw1081 hZ => ?_)
            obtain ⟨rfl, hq1083, ⟨z1085, z1086, ho1087⟩, hr1084⟩ := hw1081
            have hP := hP.trans hq1083 (by intro g h; simp_all)
            have b1089 := hq_rng z1085
            have b1090 := hq_rng z1086
            subst hr1084
            refine W.eq (g2 := F0 m 261 ls [.ref (q + 19)]) rfl ?_
            have fx1091 : V1079 (q + 10) = some (.inl (cs 1, 120, .inl (g798))) := (hq1083.2 (q + 10) _ (hr_10 hR) rfl).trans ((hq865.2 (q + 10) _ (hr_10 hR) rfl).trans ((o859 (q + 10) (hq_ne q 10 16 (by decide))).trans ((o850 (q + 10) (hq_ne q 10 15 (by decide))).trans ((o835 (q + 10) (hq_ne q 10 14 (by decide))).trans ((o829 (q + 10) (hq_ne q 10 13 (by decide))).trans ((o820 (q + 10) (hq_ne q 10 12 (by decide))).trans ((o811 (q + 10) (hq_ne q 10 11 (by decide))).trans (fx801))))))))
            have fx1092 : V1079 (q + 14) = some (.inl (cs 1, 120, .inl (g837))) := (hq1083.2 (q + 14) _ (hr_14 hR) rfl).trans ((hq865.2 (q + 14) _ (hr_14 hR) rfl).trans ((o859 (q + 14) (hq_ne q 14 16 (by decide))).trans ((o850 (q + 14) (hq_ne q 14 15 (by decide))).trans (fx840))))
            have fx1093 : V1079 (q + 2) = some (.inl (cs 1, 2, .inl (g10))) := (hq1083.2 (q + 2) _ (hr_2 hR) rfl).trans ((hq865.2 (q + 2) _ (hr_2 hR) rfl).trans ((o859 (q + 2) (hq_ne q 2 16 (by decide))).trans ((o850 (q + 2) (hq_ne q 2 15 (by decide))).trans ((o835 (q + 2) (hq_ne q 2 14 (by decide))).trans ((o829 (q + 2) (hq_ne q 2 13 (by decide))).trans ((o820 (q + 2) (hq_ne q 2 12 (by decide))).trans ((o811 (q + 2) (hq_ne q 2 11 (by decide))).trans ((o796 (q + 2) (hq_ne q 2 10 (by decide))).trans (fx777)))))))))
            exact hq_athrow hx hb hnx hlocks hZ ⟨rfl, rfl, hP, ⟨z868, z869, z870, z1085, z1086, ho1087, by assumption, by omega⟩, (hm_JH.of eV1 eV5 eV9 fx1091 fx1092 fx1093 (fun j hj => (congrFun ge799 j).trans (hm_ub (by omega) hj)) (fun j hj => (congrFun ge838 j).trans (hm_ub (by omega) hj)) rfl (hq_rg hI (hr_2 hR) eV9 0 (by decide)).2)⟩ dX13_readLine_261
        · have c782 : (y778).toInt = (60 : Int) := hq_eqi.mp c782
          refine lv_aload_n hx hb dX13_readLine_102 rfl (lv_at hl 1 rfl) ?_
          refine lv_iconst (v := 4) hx hb dX13_readLine_103 (by decide) ?_
          have hl1103 : (4 : Int32).toInt = 4 := by decide
          refine hp_callq (hp_runV (As := [.int (4)]) (rest := []) hx hb hml hown hts (t_X13_wrong l D cs B G  V31 n hP.1 q hR (mo) h_mo (4) ho37  (by omega) (by omega) (by omega) (by omega) (by omega) (by omega) (by omega) (by omega) ) hZ ho37 cv_X13_107 rfl rfl ⟨Nat.le_of_ble_eq_true rfl, Nat.le_of_ble_eq_true rfl⟩ rfl hl.1 rfl (Nat.le_of_ble_eq_true rfl) dX13_readLine_104 ⟨(Nat.le_of_ble_eq_true rfl), (Nat.le_of_ble_eq_true rfl)⟩) hZ (fun r1097 V1094 n1095 _ _ hw1096 hZ => ?_)
          obtain ⟨rfl, hq1098, ⟨z1100, z1101, ho1102⟩, hr1099⟩ := hw1096
          have hP := hP.trans hq1098 (by intro g h; simp_all)
          have b1104 := hq_rng z1100
          have b1105 := hq_rng z1101
          subst hr1099
          refine W.eq (g2 := F0 m 107 ls [.ref (q + 19)]) rfl ?_
          have fx1106 : V1094 (q + 10) = some (.inl (cs 1, 120, .inl (g2))) := (hq1098.2 (q + 10) _ (hr_10 hR) rfl).trans ((hq35.2 (q + 10) _ (hr_10 hR) rfl).trans ((hq26.2 (q + 10) _ (hr_10 hR) rfl).trans ((hq17.2 (q + 10) _ (hr_10 hR) rfl).trans (eV1))))
          have fx1107 : V1094 (q + 14) = some (.inl (cs 1, 120, .inl (g6))) := (hq1098.2 (q + 14) _ (hr_14 hR) rfl).trans ((hq35.2 (q + 14) _ (hr_14 hR) rfl).trans ((hq26.2 (q + 14) _ (hr_14 hR) rfl).trans ((hq17.2 (q + 14) _ (hr_14 hR) rfl).trans (eV5))))
          have fx1108 : V1094 (q + 2) = some (.inl (cs 1, 2, .inl (g10))) := (hq1098.2 (q + 2) _ (hr_2 hR) rfl).trans (fx777)
          exact hq_athrow hx hb hnx hlocks hZ ⟨rfl, rfl, hP, ⟨m_fr, m_bh, m_hd, z1100, z1101, ho1102, by assumption, by omega⟩, (hm_JH.of eV1 eV5 eV9 fx1106 fx1107 fx1108 (fun j hj => rfl) (fun j hj => rfl) rfl (hq_rg hI (hr_2 hR) eV9 0 (by decide)).2)⟩ dX13_readLine_107
    · have c30 : ¬ (r25).toInt = (0 : Int) := fun h9 => c30 (hq_eqi.mpr h9)
      refine lv_iconst (v := 1) hx hb dX13_readLine_22 (by decide) ?_
      refine lv_goto (tgt := 79) hx hb dX13_readLine_23 (by decide) ?_
      refine lv_istore_n (lv' := [(1, .int (1)), (0, .ref (mo))]) hx hb dX13_readLine_79 rfl hl (by decide) rfl (fun ls hl => ?_)
      refine lv_iload_n hx hb dX13_readLine_80 rfl (lv_at hl 0 rfl) ?_
      refine lv_iconst (v := -1) hx hb dX13_readLine_81 (by decide) ?_
      refine lv_icmp_ne (tgt := 91) hx hb dX13_readLine_82 (by decide) (fun c1109 => ?_) (fun c1109 => absurd c1109 (by decide))
      refine lv_aload_n hx hb dX13_readLine_91 rfl (lv_at hl 1 rfl) ?_
      refine hp_get (v := .ref (q + 2)) hx hb hts hown hZ ho28 fl_X13_10 rfl dX13_readLine_92 ?_
      refine lv_iconst (v := 1) hx hb dX13_readLine_95 (by decide) ?_
      have fx1110 : V22 (q + 2) = some (.inl (cs 1, 2, .inl (g10))) := (hq26.2 (q + 2) _ (hr_2 hR) rfl).trans ((hq17.2 (q + 2) _ (hr_2 hR) rfl).trans (eV9))
      refine hp_iald hx hb hZ fx1110 (by unfold vp_in; decide) dX13_readLine_96 ?_
      refine lv_topi (fun y1111 ey1112 => ?_)
      have b1114 : (y1111).toInt = ((g10) (1 : Int32).toNatClampNeg).toInt := by rw [ey1112]
      have b1113 : hq_ir (hq_lo 8) (hq_hi 8) y1111 := by rw [ey1112]; exact hf12 _ (by decide)
      have b1113 : 0 ≤ (y1111).toInt ∧ (y1111).toInt ≤ 60 := b1113
      refine lv_bipush (v := 60) hx hb dX13_readLine_97 (by decide) ?_
      refine lv_icmp_ne (tgt := 108) hx hb dX13_readLine_99 (by decide) (fun c1115 => ?_) (fun c1115 => ?_)
      · have c1115 : ¬ (y1111).toInt = (60 : Int) := fun h9 => c1115 (hq_eqi.mpr h9)
        refine lv_bipush (v := 60) hx hb dX13_readLine_108 (by decide) ?_
        refine lv_aload_n hx hb dX13_readLine_110 rfl (lv_at hl 1 rfl) ?_
        refine hp_get (v := .ref (q + 2)) hx hb hts hown hZ ho28 fl_X13_10 rfl dX13_readLine_111 ?_
        refine lv_iconst (v := 1) hx hb dX13_readLine_114 (by decide) ?_
        refine hp_iald hx hb hZ fx1110 (by unfold vp_in; decide) dX13_readLine_115 ?_
        refine lv_topi (fun y1116 ey1117 => ?_)
        have b1119 : (y1116).toInt = ((g10) (1 : Int32).toNatClampNeg).toInt := by rw [ey1117]
        have b1118 : hq_ir (hq_lo 8) (hq_hi 8) y1116 := by rw [ey1117]; exact hf12 _ (by decide)
        have b1118 : 0 ≤ (y1116).toInt ∧ (y1116).toInt ≤ 60 := b1118
        refine lv_iadd hx hb dX13_readLine_116 ?_
        refine lv_topi (fun y1120 ey1121 => ?_)
        obtain ⟨k1122, hk1123, b1124, b1125⟩ := hq_add (60) (y1116)
        rw [← ey1121] at hk1123 b1124 b1125
        have hk1123 : (y1120).toInt = (60 : Int) + (y1116).toInt + k1122 * 4294967296 := hk1123
        obtain rfl : k1122 = 0 := by omega
        refine lv_istore_n (lv' := [(2, .int (y1120)), (1, .int (1)), (0, .ref (mo))]) hx hb dX13_readLine_117 rfl hl (by decide) rfl (fun ls hl => ?_)
        refine lv_aload_n hx hb dX13_readLine_118 rfl (lv_at hl 2 rfl) ?_
        refine hp_get (v := .ref (q + 10)) hx hb hts hown hZ ho28 fl_X13_29 rfl dX13_readLine_119 ?_
        refine lv_iload_n hx hb dX13_readLine_122 rfl (lv_at hl 0 rfl) ?_
        refine lv_iload_n hx hb dX13_readLine_123 rfl (lv_at hl 1 rfl) ?_
        have fx1126 : V22 (q + 10) = some (.inl (cs 1, 120, .inl (g2))) := (hq26.2 (q + 10) _ (hr_10 hR) rfl).trans ((hq17.2 (q + 10) _ (hr_10 hR) rfl).trans (eV1))
        refine hp_iast hx hb hZ fx1126 (hq_in (by omega) (by omega)) dX13_readLine_124 (fun V1127 _ _ e1128 o1129 hZ => ?_)
        have e1128 : V1127 (q + 10) = some (.inl (cs 1, 120, .inl (upd (g2) ((y1120 : Int32).toNatClampNeg) (1)))) := e1128
        have hl1130 : (1 : Int32).toInt = 1 := by decide
        have hP := hP.put (hr_10 hR) e1128 o1129 (hq_c21 (by omega) (hq_upd hf4 (hq_rng _))) rfl
        obtain ⟨g1131, ge1132⟩ : ∃ g9 : Nat → Int32, g9 = upd (g2) ((y1120 : Int32).toNatClampNeg) (1) := ⟨_, rfl⟩
        have fx1134 : V1127 (q + 10) = some (.inl (cs 1, 120, .inl (g1131))) := by rw [ge1132]; exact e1128
        have hf1133 := hq_rg hP.1 (hr_10 hR) fx1134
        have b1135 : (g1131 (y1120 : Int32).toNatClampNeg).toInt = (1 : Int32).toInt := congrArg Int32.toInt ((congrFun ge1132 _).trans hm_ue)
        have b1136 : (1 : Int32).toInt = 1 := by decide
        refine lv_aload_n hx hb dX13_readLine_125 rfl (lv_at hl 2 rfl) ?_
        have fx1137 : V1127 (mo) = some (.inr (13, hm_o q (m_tp) (m_sz) (m_fr) (m_bh) (m_hd) (m_ft) (m_fa) (m_le) (m_fo) (m_as) (m_fd) (m_bc) (m_bg) (m_bs) (m_be) (m_b0) (m_b1) (m_cm) (m_hc))) := (o1129 (mo) (hq_tne h_mo (hr_10 hR) (by simp))).trans (ho28)
        refine hp_get (v := .ref (q + 11)) hx hb hts hown hZ fx1137 fl_X13_32 rfl dX13_readLine_126 ?_
        refine lv_iload_n hx hb dX13_readLine_129 rfl (lv_at hl 0 rfl) ?_
        refine lv_iconst (v := -1) hx hb dX13_readLine_130 (by decide) ?_
        obtain ⟨hN1140, g1139, eV1138, hf1141⟩ := hq_o21 hP.1 (hr_11 hR)
        refine hp_iast hx hb hZ eV1138 (hq_in (by omega) (by omega)) dX13_readLine_131 (fun V1142 _ _ e1143 o1144 hZ => ?_)
        have e1143 : V1142 (q + 11) = some (.inl (cs 1, 120, .inl (upd (g1139) ((y1120 : Int32).toNatClampNeg) (-1)))) := e1143
        have hl1145 : (-1 : Int32).toInt = -1 := by decide
        have hP := hP.put (hr_11 hR) e1143 o1144 (hq_c21 (by omega) (hq_upd hf1141 (hq_rng _))) rfl
        refine lv_aload_n hx hb dX13_readLine_132 rfl (lv_at hl 2 rfl) ?_
        have fx1146 : V1142 (mo) = some (.inr (13, hm_o q (m_tp) (m_sz) (m_fr) (m_bh) (m_hd) (m_ft) (m_fa) (m_le) (m_fo) (m_as) (m_fd) (m_bc) (m_bg) (m_bs) (m_be) (m_b0) (m_b1) (m_cm) (m_hc))) := (o1144 (mo) (hq_tne h_mo (hr_11 hR) (by simp))).trans (fx1137)
        refine hp_get (v := .ref (q + 12)) hx hb hts hown hZ fx1146 fl_X13_35 rfl dX13_readLine_133 ?_
        refine lv_iload_n hx hb dX13_readLine_136 rfl (lv_at hl 0 rfl) ?_
        refine lv_iconst (v := -1) hx hb dX13_readLine_137 (by decide) ?_
        obtain ⟨hN1149, g1148, eV1147, hf1150⟩ := hq_o21 hP.1 (hr_12 hR)
        refine hp_iast hx hb hZ eV1147 (hq_in (by omega) (by omega)) dX13_readLine_138 (fun V1151 _ _ e1152 o1153 hZ => ?_)
        have e1152 : V1151 (q + 12) = some (.inl (cs 1, 120, .inl (upd (g1148) ((y1120 : Int32).toNatClampNeg) (-1)))) := e1152
        have hl1154 : (-1 : Int32).toInt = -1 := by decide
        have hP := hP.put (hr_12 hR) e1152 o1153 (hq_c21 (by omega) (hq_upd hf1150 (hq_rng _))) rfl
        refine lv_aload_n hx hb dX13_readLine_139 rfl (lv_at hl 2 rfl) ?_
        have fx1155 : V1151 (mo) = some (.inr (13, hm_o q (m_tp) (m_sz) (m_fr) (m_bh) (m_hd) (m_ft) (m_fa) (m_le) (m_fo) (m_as) (m_fd) (m_bc) (m_bg) (m_bs) (m_be) (m_b0) (m_b1) (m_cm) (m_hc))) := (o1153 (mo) (hq_tne h_mo (hr_12 hR) (by simp))).trans (fx1146)
        refine hp_get (v := .ref (q + 13)) hx hb hts hown hZ fx1155 fl_X13_38 rfl dX13_readLine_140 ?_
        refine lv_iload_n hx hb dX13_readLine_143 rfl (lv_at hl 0 rfl) ?_
        refine lv_iconst (v := -1) hx hb dX13_readLine_144 (by decide) ?_
        obtain ⟨hN1158, g1157, eV1156, hf1159⟩ := hq_o21 hP.1 (hr_13 hR)
        refine hp_iast hx hb hZ eV1156 (hq_in (by omega) (by omega)) dX13_readLine_145 (fun V1160 _ _ e1161 o1162 hZ => ?_)
        have e1161 : V1160 (q + 13) = some (.inl (cs 1, 120, .inl (upd (g1157) ((y1120 : Int32).toNatClampNeg) (-1)))) := e1161
        have hl1163 : (-1 : Int32).toInt = -1 := by decide
        have hP := hP.put (hr_13 hR) e1161 o1162 (hq_c21 (by omega) (hq_upd hf1159 (hq_rng _))) rfl
        refine lv_aload_n hx hb dX13_readLine_146 rfl (lv_at hl 2 rfl) ?_
        have fx1164 : V1160 (mo) = some (.inr (13, hm_o q (m_tp) (m_sz) (m_fr) (m_bh) (m_hd) (m_ft) (m_fa) (m_le) (m_fo) (m_as) (m_fd) (m_bc) (m_bg) (m_bs) (m_be) (m_b0) (m_b1) (m_cm) (m_hc))) := (o1162 (mo) (hq_tne h_mo (hr_13 hR) (by simp))).trans (fx1155)
        refine hp_get (v := .ref (q + 14)) hx hb hts hown hZ fx1164 fl_X13_41 rfl dX13_readLine_147 ?_
        refine lv_iload_n hx hb dX13_readLine_150 rfl (lv_at hl 0 rfl) ?_
        refine lv_iconst (v := 0) hx hb dX13_readLine_151 (by decide) ?_
        have fx1165 : V1160 (q + 14) = some (.inl (cs 1, 120, .inl (g6))) := (o1162 (q + 14) (hq_ne q 14 13 (by decide))).trans ((o1153 (q + 14) (hq_ne q 14 12 (by decide))).trans ((o1144 (q + 14) (hq_ne q 14 11 (by decide))).trans ((o1129 (q + 14) (hq_ne q 14 10 (by decide))).trans ((hq26.2 (q + 14) _ (hr_14 hR) rfl).trans ((hq17.2 (q + 14) _ (hr_14 hR) rfl).trans (eV5))))))
        refine hp_iast hx hb hZ fx1165 (hq_in (by omega) (by omega)) dX13_readLine_152 (fun V1166 _ _ e1167 o1168 hZ => ?_)
        have e1167 : V1166 (q + 14) = some (.inl (cs 1, 120, .inl (upd (g6) ((y1120 : Int32).toNatClampNeg) (0)))) := e1167
        have hl1169 : (0 : Int32).toInt = 0 := by decide
        have hP := hP.put (hr_14 hR) e1167 o1168 (hq_c21 (by omega) (hq_upd hf8 (show 0 ≤ _ ∧ _ ≤ 8 by constructor <;> omega))) rfl
        obtain ⟨g1170, ge1171⟩ : ∃ g9 : Nat → Int32, g9 = upd (g6) ((y1120 : Int32).toNatClampNeg) (0) := ⟨_, rfl⟩
        have fx1173 : V1166 (q + 14) = some (.inl (cs 1, 120, .inl (g1170))) := by rw [ge1171]; exact e1167
        have hf1172 := hq_rg hP.1 (hr_14 hR) fx1173
        have b1174 : (g1170 (y1120 : Int32).toNatClampNeg).toInt = (0 : Int32).toInt := congrArg Int32.toInt ((congrFun ge1171 _).trans hm_ue)
        have b1175 : (0 : Int32).toInt = 0 := by decide
        refine lv_aload_n hx hb dX13_readLine_153 rfl (lv_at hl 2 rfl) ?_
        have fx1176 : V1166 (mo) = some (.inr (13, hm_o q (m_tp) (m_sz) (m_fr) (m_bh) (m_hd) (m_ft) (m_fa) (m_le) (m_fo) (m_as) (m_fd) (m_bc) (m_bg) (m_bs) (m_be) (m_b0) (m_b1) (m_cm) (m_hc))) := (o1168 (mo) (hq_tne h_mo (hr_14 hR) (by simp))).trans (fx1164)
        refine hp_get (v := .ref (q + 15)) hx hb hts hown hZ fx1176 fl_X13_44 rfl dX13_readLine_154 ?_
        refine lv_iload_n hx hb dX13_readLine_157 rfl (lv_at hl 0 rfl) ?_
        refine lv_iconst (v := 0) hx hb dX13_readLine_158 (by decide) ?_
        obtain ⟨hN1179, g1178, eV1177, hf1180⟩ := hq_o21 hP.1 (hr_15 hR)
        refine hp_iast hx hb hZ eV1177 (hq_in (by omega) (by omega)) dX13_readLine_159 (fun V1181 _ _ e1182 o1183 hZ => ?_)
        have e1182 : V1181 (q + 15) = some (.inl (cs 1, 120, .inl (upd (g1178) ((y1120 : Int32).toNatClampNeg) (0)))) := e1182
        have hl1184 : (0 : Int32).toInt = 0 := by decide
        have hP := hP.put (hr_15 hR) e1182 o1183 (hq_c21 (by omega) (hq_upd hf1180 (show 0 ≤ _ ∧ _ ≤ 8 by constructor <;> omega))) rfl
        refine lv_aload_n hx hb dX13_readLine_160 rfl (lv_at hl 2 rfl) ?_
        have fx1185 : V1181 (mo) = some (.inr (13, hm_o q (m_tp) (m_sz) (m_fr) (m_bh) (m_hd) (m_ft) (m_fa) (m_le) (m_fo) (m_as) (m_fd) (m_bc) (m_bg) (m_bs) (m_be) (m_b0) (m_b1) (m_cm) (m_hc))) := (o1183 (mo) (hq_tne h_mo (hr_15 hR) (by simp))).trans (fx1176)
        refine hp_get (v := .ref (q + 16)) hx hb hts hown hZ fx1185 fl_X13_47 rfl dX13_readLine_161 ?_
        refine lv_iload_n hx hb dX13_readLine_164 rfl (lv_at hl 0 rfl) ?_
        refine lv_iconst (v := 0) hx hb dX13_readLine_165 (by decide) ?_
        obtain ⟨hN1188, g1187, eV1186, hf1189⟩ := hq_o21 hP.1 (hr_16 hR)
        refine hp_iast hx hb hZ eV1186 (hq_in (by omega) (by omega)) dX13_readLine_166 (fun V1190 _ _ e1191 o1192 hZ => ?_)
        have e1191 : V1190 (q + 16) = some (.inl (cs 1, 120, .inl (upd (g1187) ((y1120 : Int32).toNatClampNeg) (0)))) := e1191
        have hl1193 : (0 : Int32).toInt = 0 := by decide
        have hP := hP.put (hr_16 hR) e1191 o1192 (hq_c21 (by omega) (hq_upd hf1189 (show 0 ≤ _ ∧ _ ≤ 29 by constructor <;> omega))) rfl
        refine lv_aload_n hx hb dX13_readLine_167 rfl (lv_at hl 2 rfl) ?_
        have fx1200 : V1190 (mo) = some (.inr (13, hm_o q (m_tp) (m_sz) (m_fr) (m_bh) (m_hd) (m_ft) (m_fa) (m_le) (m_fo) (m_as) (m_fd) (m_bc) (m_bg) (m_bs) (m_be) (m_b0) (m_b1) (m_cm) (m_hc))) := (o1192 (mo) (hq_tne h_mo (hr_16 hR) (by simp))).trans (fx1185)
        refine hp_callv (hp_runV (As := []) (rest := []) hx hb hml hown hts (t_X13_scan l D cs B G  V1190 n hP.1 q hR (mo) h_mo fx1200  (by omega) (by omega) (by omega) (by omega) (by omega) (by omega) (by omega) (by omega) (hm_SC.s0 (by assumption)) (hm_SC.s1 (by assumption) (by first | omega | (have h8 := hm_Is.hd (by assumption) (by omega); omega)))) hZ fx1200 cv_X13_111 rfl rfl ⟨Nat.le_of_ble_eq_true rfl, Nat.le_of_ble_eq_true rfl⟩ rfl hl.1 rfl (Nat.le_of_ble_eq_true rfl) dX13_readLine_168 ⟨(Nat.le_of_ble_eq_true rfl), (Nat.le_of_ble_eq_true rfl)⟩) hZ (fun V1194 n1195 _ _ hw1196 hZ => ?_)
        obtain ⟨rfl, hq1198, ⟨z1201, z1202, z1203, ho1204, hi1205, hi1206, hi1207⟩⟩ := hw1196
        have hP := hP.trans hq1198 (by intro g h; simp_all)
        have b1208 := hq_rng z1201
        have b1209 := hq_rng z1202
        have b1210 := hq_rng z1203
        refine lv_iload_n hx hb dX13_readLine_171 rfl (lv_at hl 1 rfl) ?_
        refine lv_iconst (v := 4) hx hb dX13_readLine_172 (by decide) ?_
        refine lv_icmp_eq (tgt := 181) hx hb dX13_readLine_173 (by decide) (fun c1211 => absurd c1211 (by decide)) (fun c1211 => ?_)
        refine lv_iload_n hx hb dX13_readLine_176 rfl (lv_at hl 1 rfl) ?_
        refine lv_iconst (v := 5) hx hb dX13_readLine_177 (by decide) ?_
        refine lv_icmp_ne (tgt := 194) hx hb dX13_readLine_178 (by decide) (fun c1212 => ?_) (fun c1212 => absurd c1212 (by decide))
        refine lv_iload_n hx hb dX13_readLine_194 rfl (lv_at hl 1 rfl) ?_
        refine lv_iconst (v := 2) hx hb dX13_readLine_195 (by decide) ?_
        refine lv_icmp_eq (tgt := 204) hx hb dX13_readLine_196 (by decide) (fun c1213 => absurd c1213 (by decide)) (fun c1213 => ?_)
        refine lv_aload_n hx hb dX13_readLine_199 rfl (lv_at hl 2 rfl) ?_
        refine lv_iload_n hx hb dX13_readLine_200 rfl (lv_at hl 0 rfl) ?_
        have fx1228 : V1194 (q + 10) = some (.inl (cs 1, 120, .inl (g1131))) := (hq1198.2 (q + 10) _ (hr_10 hR) rfl).trans ((o1192 (q + 10) (hq_ne q 10 16 (by decide))).trans ((o1183 (q + 10) (hq_ne q 10 15 (by decide))).trans ((o1168 (q + 10) (hq_ne q 10 14 (by decide))).trans ((o1162 (q + 10) (hq_ne q 10 13 (by decide))).trans ((o1153 (q + 10) (hq_ne q 10 12 (by decide))).trans ((o1144 (q + 10) (hq_ne q 10 11 (by decide))).trans (fx1134)))))))
        have fx1229 : V1194 (q + 14) = some (.inl (cs 1, 120, .inl (g1170))) := (hq1198.2 (q + 14) _ (hr_14 hR) rfl).trans ((o1192 (q + 14) (hq_ne q 14 16 (by decide))).trans ((o1183 (q + 14) (hq_ne q 14 15 (by decide))).trans (fx1173)))
        have fx1230 : V1194 (q + 2) = some (.inl (cs 1, 2, .inl (g10))) := (hq1198.2 (q + 2) _ (hr_2 hR) rfl).trans ((o1192 (q + 2) (hq_ne q 2 16 (by decide))).trans ((o1183 (q + 2) (hq_ne q 2 15 (by decide))).trans ((o1168 (q + 2) (hq_ne q 2 14 (by decide))).trans ((o1162 (q + 2) (hq_ne q 2 13 (by decide))).trans ((o1153 (q + 2) (hq_ne q 2 12 (by decide))).trans ((o1144 (q + 2) (hq_ne q 2 11 (by decide))).trans ((o1129 (q + 2) (hq_ne q 2 10 (by decide))).trans (fx1110))))))))
        refine hq_callx (hq_runV (As := [.int (y1120)]) (rest := []) hx hb hml hown hts (t_X13_readWhere l D cs B G  V1194 n hP.1 q hR (mo) h_mo (y1120) ho1204  (by omega) (by omega) (by omega) (by omega) (by omega) (by omega) (by omega) (by omega) (by assumption) (by omega) (by omega)) hZ ho1204 cv_X13_185 rfl rfl ⟨Nat.le_of_ble_eq_true rfl, Nat.le_of_ble_eq_true rfl⟩ rfl hl.1 rfl (Nat.le_of_ble_eq_true rfl) dX13_readLine_201 ⟨(Nat.le_of_ble_eq_true rfl), (Nat.le_of_ble_eq_true rfl)⟩) hZ hnx hlocks (by rintro x9 V9 n9 ⟨rfl, rfl, hq9, ⟨z1220x, z1221x, z1222x, z1223x, z1224x, hox0, hix00, hix01⟩⟩; have hbxz1220 := hq_rng z1220x; have hbxz1221 := hq_rng z1221x; have hbxz1222 := hq_rng z1222x; have hbxz1223 := hq_rng z1223x; have hbxz1224 := hq_rng z1224x; exact ⟨rfl, rfl, hP.trans hq9 (by intro g h; simp_all), ⟨z1220x, z1221x, z1222x, z1223x, z1224x, hox0, by assumption, by omega⟩, ((hm_JH.of eV1 eV5 eV9 fx1228 fx1229 fx1230 (fun j hj => (congrFun ge1132 j).trans (hm_ub (by omega) hj)) (fun j hj => (congrFun ge1171 j).trans (hm_ub (by omega) hj)) rfl (hq_rg hI (hr_2 hR) eV9 0 (by decide)).2)).keep hR (fun x t hx hg => hq9.2 x t hx (by simp [hg]))⟩) (fun v9 V1214 n1215 _ _ hw1216 hZ => ?_)
        obtain ⟨rfl, rfl, hq1218, ⟨z1220, z1221, z1222, z1223, z1224, ho1225, hi1226, hi1227⟩⟩ := hw1216
        refine W.eq (g2 := F0 m 204 ls []) rfl ?_
        have hP := hP.trans hq1218 (by intro g h; simp_all)
        have b1231 := hq_rng z1220
        have b1232 := hq_rng z1221
        have b1233 := hq_rng z1222
        have b1234 := hq_rng z1223
        have b1235 := hq_rng z1224
        refine lv_iload_n hx hb dX13_readLine_204 rfl (lv_at hl 1 rfl) ?_
        refine lv_iconst (v := 2) hx hb dX13_readLine_205 (by decide) ?_
        refine lv_icmp_eq (tgt := 219) hx hb dX13_readLine_206 (by decide) (fun c1236 => absurd c1236 (by decide)) (fun c1236 => ?_)
        refine lv_iload_n hx hb dX13_readLine_209 rfl (lv_at hl 1 rfl) ?_
        refine lv_iconst (v := 3) hx hb dX13_readLine_210 (by decide) ?_
        refine lv_icmp_eq (tgt := 219) hx hb dX13_readLine_211 (by decide) (fun c1237 => absurd c1237 (by decide)) (fun c1237 => ?_)
        refine lv_aload_n hx hb dX13_readLine_214 rfl (lv_at hl 2 rfl) ?_
        refine lv_iload_n hx hb dX13_readLine_215 rfl (lv_at hl 0 rfl) ?_
        have fx1252 : V1214 (q + 10) = some (.inl (cs 1, 120, .inl (g1131))) := (hq1218.2 (q + 10) _ (hr_10 hR) rfl).trans (fx1228)
        have fx1253 : V1214 (q + 14) = some (.inl (cs 1, 120, .inl (g1170))) := (hq1218.2 (q + 14) _ (hr_14 hR) rfl).trans (fx1229)
        have fx1254 : V1214 (q + 2) = some (.inl (cs 1, 2, .inl (g10))) := (hq1218.2 (q + 2) _ (hr_2 hR) rfl).trans (fx1230)
        refine hq_callx (hq_runV (As := [.int (y1120)]) (rest := []) hx hb hml hown hts (t_X13_readSlot l D cs B G  V1214 n hP.1 q hR (mo) h_mo (y1120) ho1225  (by omega) (by omega) (by omega) (by omega) (by omega) (by omega) (by omega) (by omega) (by assumption) (by omega) (by omega)) hZ ho1225 cv_X13_189 rfl rfl ⟨Nat.le_of_ble_eq_true rfl, Nat.le_of_ble_eq_true rfl⟩ rfl hl.1 rfl (Nat.le_of_ble_eq_true rfl) dX13_readLine_216 ⟨(Nat.le_of_ble_eq_true rfl), (Nat.le_of_ble_eq_true rfl)⟩) hZ hnx hlocks (by rintro x9 V9 n9 ⟨rfl, rfl, hq9, ⟨z1244x, z1245x, z1246x, z1247x, z1248x, hox0, hix00, hix01⟩⟩; have hbxz1244 := hq_rng z1244x; have hbxz1245 := hq_rng z1245x; have hbxz1246 := hq_rng z1246x; have hbxz1247 := hq_rng z1247x; have hbxz1248 := hq_rng z1248x; exact ⟨rfl, rfl, hP.trans hq9 (by intro g h; simp_all), ⟨z1244x, z1245x, z1246x, z1247x, z1248x, hox0, by assumption, by omega⟩, ((hm_JH.of eV1 eV5 eV9 fx1252 fx1253 fx1254 (fun j hj => (congrFun ge1132 j).trans (hm_ub (by omega) hj)) (fun j hj => (congrFun ge1171 j).trans (hm_ub (by omega) hj)) rfl (hq_rg hI (hr_2 hR) eV9 0 (by decide)).2)).keep hR (fun x t hx hg => hq9.2 x t hx (by simp [hg]))⟩) (fun v9 V1238 n1239 _ _ hw1240 hZ => ?_)
        obtain ⟨rfl, rfl, hq1242, ⟨z1244, z1245, z1246, z1247, z1248, ho1249, hi1250, hi1251⟩⟩ := hw1240
        refine W.eq (g2 := F0 m 219 ls []) rfl ?_
        have hP := hP.trans hq1242 (by intro g h; simp_all)
        have b1255 := hq_rng z1244
        have b1256 := hq_rng z1245
        have b1257 := hq_rng z1246
        have b1258 := hq_rng z1247
        have b1259 := hq_rng z1248
        refine lv_iload_n hx hb dX13_readLine_219 rfl (lv_at hl 1 rfl) ?_
        refine lv_iconst (v := 3) hx hb dX13_readLine_220 (by decide) ?_
        refine lv_icmp_ne (tgt := 229) hx hb dX13_readLine_221 (by decide) (fun c1260 => ?_) (fun c1260 => absurd c1260 (by decide))
        refine lv_iload_n hx hb dX13_readLine_229 rfl (lv_at hl 1 rfl) ?_
        refine lv_if_eq (tgt := 248) hx hb dX13_readLine_230 (by decide) (fun c1261 => absurd c1261 (by decide)) (fun c1261 => ?_)
        refine lv_iload_n hx hb dX13_readLine_233 rfl (lv_at hl 1 rfl) ?_
        refine lv_iconst (v := 1) hx hb dX13_readLine_234 (by decide) ?_
        refine lv_icmp_eq (tgt := 248) hx hb dX13_readLine_235 (by decide) (fun c1262 => ?_) (fun c1262 => absurd (by decide) c1262)
        refine lv_aload_n hx hb dX13_readLine_248 rfl (lv_at hl 2 rfl) ?_
        refine hp_get (v := .int (z1246)) hx hb hts hown hZ ho1249 fl_X13_83 rfl dX13_readLine_249 ?_
        refine lv_iconst (v := 3) hx hb dX13_readLine_252 (by decide) ?_
        refine lv_icmp_eq (tgt := 262) hx hb dX13_readLine_253 (by decide) (fun c1263 => ?_) (fun c1263 => ?_)
        · have c1263 : (z1246).toInt = (3 : Int) := hq_eqi.mp c1263
          refine lv_iload_n hx hb dX13_readLine_262 rfl (lv_at hl 1 rfl) ?_
          refine lv_iconst (v := 4) hx hb dX13_readLine_263 (by decide) ?_
          refine lv_icmp_ne (tgt := 282) hx hb dX13_readLine_264 (by decide) (fun c1264 => ?_) (fun c1264 => absurd c1264 (by decide))
          refine lv_iload_n hx hb dX13_readLine_282 rfl (lv_at hl 1 rfl) ?_
          refine lv_iconst (v := 1) hx hb dX13_readLine_283 (by decide) ?_
          refine lv_icmp_eq (tgt := 306) hx hb dX13_readLine_284 (by decide) (fun c1265 => ?_) (fun c1265 => absurd (by decide) c1265)
          refine lv_aload_n hx hb dX13_readLine_306 rfl (lv_at hl 2 rfl) ?_
          refine hp_get (v := .ref (q + 14)) hx hb hts hown hZ ho1249 fl_X13_41 rfl dX13_readLine_307 ?_
          refine lv_iload_n hx hb dX13_readLine_310 rfl (lv_at hl 0 rfl) ?_
          refine lv_aload_n hx hb dX13_readLine_311 rfl (lv_at hl 2 rfl) ?_
          refine lv_aload_n hx hb dX13_readLine_312 rfl (lv_at hl 2 rfl) ?_
          refine hp_get (v := .ref (q + 5)) hx hb hts hown hZ ho1249 fl_X13_23 rfl dX13_readLine_313 ?_
          refine lv_iload_n hx hb dX13_readLine_316 rfl (lv_at hl 0 rfl) ?_
          have h3a := hm_SC.a3 (by assumption : hm_SC m_sz z1244 z1245 z1246) (by omega)
          refine hp_calli (hp_runV (As := [.ref (q + 5), .int (y1120)]) (rest := [.int (y1120), .ref (q + 14)]) hx hb hml hown hts (t_X13_takeLetters l D cs B G  V1238 n hP.1 q hR (mo) h_mo (q + 5) (hr_5 hR) (y1120) ho1249  (by omega) (by omega) (by omega) (by omega) (by omega) (by omega) (by omega) (by omega) (by assumption) (by omega) (by omega) (by omega)) hZ ho1249 cv_X13_198 rfl rfl ⟨Nat.le_of_ble_eq_true rfl, Nat.le_of_ble_eq_true rfl⟩ rfl hl.1 rfl (Nat.le_of_ble_eq_true rfl) dX13_readLine_317 ⟨(Nat.le_of_ble_eq_true rfl), (Nat.le_of_ble_eq_true rfl)⟩) hZ (fun r1269 V1266 n1267 _ _ hw1268 hZ => ?_)
          obtain ⟨rfl, hq1270, ⟨z1272, z1273, z1274, ho1275, hi1276, hi1277⟩, hr1271⟩ := hw1268
          have hP := hP.trans hq1270 (by intro g h; simp_all)
          have b1278 := hq_rng z1272
          have b1279 := hq_rng z1273
          have b1280 := hq_rng z1274
          have b1281 := hq_rng r1269
          have fx1282 : V1266 (q + 14) = some (.inl (cs 1, 120, .inl (g1170))) := (hq1270.2 (q + 14) _ (hr_14 hR) rfl).trans ((hq1242.2 (q + 14) _ (hr_14 hR) rfl).trans (fx1253))
          refine hp_iast hx hb hZ fx1282 (hq_in (by omega) (by omega)) dX13_readLine_320 (fun V1283 _ _ e1284 o1285 hZ => ?_)
          have e1284 : V1283 (q + 14) = some (.inl (cs 1, 120, .inl (upd (g1170) ((y1120 : Int32).toNatClampNeg) (r1269)))) := e1284
          have hP := hP.put (hr_14 hR) e1284 o1285 (hq_c21 (by omega) (hq_upd hf1172 (show 0 ≤ _ ∧ _ ≤ 8 by constructor <;> omega))) rfl
          obtain ⟨g1286, ge1287⟩ : ∃ g9 : Nat → Int32, g9 = upd (g1170) ((y1120 : Int32).toNatClampNeg) (r1269) := ⟨_, rfl⟩
          have fx1289 : V1283 (q + 14) = some (.inl (cs 1, 120, .inl (g1286))) := by rw [ge1287]; exact e1284
          have hf1288 := hq_rg hP.1 (hr_14 hR) fx1289
          have b1290 : (g1286 (y1120 : Int32).toNatClampNeg).toInt = (r1269 : Int32).toInt := congrArg Int32.toInt ((congrFun ge1287 _).trans hm_ue)
          refine lv_iload_n hx hb dX13_readLine_321 rfl (lv_at hl 1 rfl) ?_
          refine lv_if_eq (tgt := 330) hx hb dX13_readLine_322 (by decide) (fun c1291 => absurd c1291 (by decide)) (fun c1291 => ?_)
          refine lv_iload_n hx hb dX13_readLine_325 rfl (lv_at hl 1 rfl) ?_
          refine lv_iconst (v := 2) hx hb dX13_readLine_326 (by decide) ?_
          refine lv_icmp_ne (tgt := 365) hx hb dX13_readLine_327 (by decide) (fun c1292 => ?_) (fun c1292 => absurd c1292 (by decide))
          refine lv_iload_n hx hb dX13_readLine_365 rfl (lv_at hl 1 rfl) ?_
          refine lv_iconst (v := 2) hx hb dX13_readLine_366 (by decide) ?_
          refine lv_icmp_ne (tgt := 390) hx hb dX13_readLine_367 (by decide) (fun c1293 => ?_) (fun c1293 => absurd c1293 (by decide))
          refine lv_aload_n hx hb dX13_readLine_390 rfl (lv_at hl 2 rfl) ?_
          have fx1294 : V1283 (mo) = some (.inr (13, hm_o q (m_tp) (m_sz) (z1272) (z1273) (z1274) (z1247) (z1248) (m_le) (m_fo) (m_as) (m_fd) (m_bc) (m_bg) (m_bs) (m_be) (m_b0) (m_b1) (m_cm) (m_hc))) := (o1285 (mo) (hq_tne h_mo (hr_14 hR) (by simp))).trans (ho1275)
          refine hp_get (v := .ref (q + 2)) hx hb hts hown hZ fx1294 fl_X13_10 rfl dX13_readLine_391 ?_
          refine lv_iconst (v := 1) hx hb dX13_readLine_394 (by decide) ?_
          refine lv_dup2_11 hx hb dX13_readLine_395 rfl rfl ?_
          have fx1295 : V1283 (q + 2) = some (.inl (cs 1, 2, .inl (g10))) := (o1285 (q + 2) (hq_ne q 2 14 (by decide))).trans ((hq1270.2 (q + 2) _ (hr_2 hR) rfl).trans ((hq1242.2 (q + 2) _ (hr_2 hR) rfl).trans (fx1254)))
          refine hp_iald hx hb hZ fx1295 (by unfold vp_in; decide) dX13_readLine_396 ?_
          refine lv_topi (fun y1296 ey1297 => ?_)
          have b1299 : (y1296).toInt = ((g10) (1 : Int32).toNatClampNeg).toInt := by rw [ey1297]
          have b1298 : hq_ir (hq_lo 8) (hq_hi 8) y1296 := by rw [ey1297]; exact hf12 _ (by decide)
          have b1298 : 0 ≤ (y1296).toInt ∧ (y1296).toInt ≤ 60 := b1298
          refine lv_iconst (v := 1) hx hb dX13_readLine_397 (by decide) ?_
          refine lv_iadd hx hb dX13_readLine_398 ?_
          refine lv_topi (fun y1300 ey1301 => ?_)
          obtain ⟨k1302, hk1303, b1304, b1305⟩ := hq_add (y1296) (1)
          rw [← ey1301] at hk1303 b1304 b1305
          have hk1303 : (y1300).toInt = (y1296).toInt + (1 : Int) + k1302 * 4294967296 := hk1303
          obtain rfl : k1302 = 0 := by omega
          refine hp_iast hx hb hZ fx1295 (by unfold vp_in; decide) dX13_readLine_399 (fun V1306 _ _ e1307 o1308 hZ => ?_)
          have e1307 : V1306 (q + 2) = some (.inl (cs 1, 2, .inl (upd (g10) ((1 : Int32).toNatClampNeg) (y1300)))) := e1307
          have hP := hP.put (hr_2 hR) e1307 o1308 (hq_c21 (by omega) (hq_upd hf12 (show 0 ≤ _ ∧ _ ≤ 60 by constructor <;> omega))) rfl
          obtain ⟨g1309, ge1310⟩ : ∃ g9 : Nat → Int32, g9 = upd (g10) ((1 : Int32).toNatClampNeg) (y1300) := ⟨_, rfl⟩
          have fx1312 : V1306 (q + 2) = some (.inl (cs 1, 2, .inl (g1309))) := by rw [ge1310]; exact e1307
          have hf1311 := hq_rg hP.1 (hr_2 hR) fx1312
          have b1313 : (g1309 (1 : Int32).toNatClampNeg).toInt = (y1300 : Int32).toInt := congrArg Int32.toInt ((congrFun ge1310 _).trans hm_ue)
          have fx1314 : V1306 (mo) = some (.inr (13, hm_o q (m_tp) (m_sz) (z1272) (z1273) (z1274) (z1247) (z1248) (m_le) (m_fo) (m_as) (m_fd) (m_bc) (m_bg) (m_bs) (m_be) (m_b0) (m_b1) (m_cm) (m_hc))) := (o1308 (mo) (hq_tne h_mo (hr_2 hR) (by simp))).trans (fx1294)
          have fx1315 : V1306 (q + 10) = some (.inl (cs 1, 120, .inl (g1131))) := (o1308 (q + 10) (hq_ne q 10 2 (by decide))).trans ((o1285 (q + 10) (hq_ne q 10 14 (by decide))).trans ((hq1270.2 (q + 10) _ (hr_10 hR) rfl).trans ((hq1242.2 (q + 10) _ (hr_10 hR) rfl).trans (fx1252))))
          have fx1316 : V1306 (q + 14) = some (.inl (cs 1, 120, .inl (g1286))) := (o1308 (q + 14) (hq_ne q 14 2 (by decide))).trans (fx1289)
          exact hq_vret hx hb hr hlocks hZ ⟨rfl, rfl, hP, ⟨z1272, z1273, z1274, z1247, z1248, fx1314, by assumption, by omega⟩, ⟨(hm_JH.of eV1 eV5 eV9 fx1315 fx1316 fx1312 (fun j hj => (congrFun ge1132 j).trans (hm_ub (by omega) hj)) (fun j hj => ((congrFun ge1287 j).trans (hm_ub (by omega) hj)).trans ((congrFun ge1171 j).trans (hm_ub (by omega) hj))) ((congrFun ge1310 0).trans (hm_un (by decide))) (hq_rg hI (hr_2 hR) eV9 0 (by decide)).2), (hm_JJ.of (l := y1120) eV1 eV5 eV9 fx1315 fx1316 fx1312 (by omega) (by omega) (fun j hj => (congrFun ge1132 j).trans (hm_un hj)) (fun j hj => ((congrFun ge1287 j).trans (hm_un hj)).trans ((congrFun ge1171 j).trans (hm_un hj))) (by rw [show g1309 (1 : Int32).toNatClampNeg = _ from (congrFun ge1310 _).trans hm_ue]; omega) (fun h9 => by rw [show g1131 y1120.toNatClampNeg = 1 from (congrFun ge1132 _).trans hm_ue] at h9; exact absurd h9 (by decide)))⟩⟩ dX13_readLine_400
        · have c1263 : ¬ (z1246).toInt = (3 : Int) := fun h9 => c1263 (hq_eqi.mpr h9)
          refine lv_aload_n hx hb dX13_readLine_256 rfl (lv_at hl 2 rfl) ?_
          refine lv_iconst (v := 1) hx hb dX13_readLine_257 (by decide) ?_
          have hl1326 : (1 : Int32).toInt = 1 := by decide
          refine hp_callq (hp_runV (As := [.int (1)]) (rest := []) hx hb hml hown hts (t_X13_wrong l D cs B G  V1238 n hP.1 q hR (mo) h_mo (1) ho1249  (by omega) (by omega) (by omega) (by omega) (by omega) (by omega) (by omega) (by omega) ) hZ ho1249 cv_X13_107 rfl rfl ⟨Nat.le_of_ble_eq_true rfl, Nat.le_of_ble_eq_true rfl⟩ rfl hl.1 rfl (Nat.le_of_ble_eq_true rfl) dX13_readLine_258 ⟨(Nat.le_of_ble_eq_true rfl), (Nat.le_of_ble_eq_true rfl)⟩) hZ (fun r1320 V1317 n1318 _ _ hw1319 hZ => ?_)
          obtain ⟨rfl, hq1321, ⟨z1323, z1324, ho1325⟩, hr1322⟩ := hw1319
          have hP := hP.trans hq1321 (by intro g h; simp_all)
          have b1327 := hq_rng z1323
          have b1328 := hq_rng z1324
          subst hr1322
          refine W.eq (g2 := F0 m 261 ls [.ref (q + 19)]) rfl ?_
          have fx1329 : V1317 (q + 10) = some (.inl (cs 1, 120, .inl (g1131))) := (hq1321.2 (q + 10) _ (hr_10 hR) rfl).trans ((hq1242.2 (q + 10) _ (hr_10 hR) rfl).trans (fx1252))
          have fx1330 : V1317 (q + 14) = some (.inl (cs 1, 120, .inl (g1170))) := (hq1321.2 (q + 14) _ (hr_14 hR) rfl).trans ((hq1242.2 (q + 14) _ (hr_14 hR) rfl).trans (fx1253))
          have fx1331 : V1317 (q + 2) = some (.inl (cs 1, 2, .inl (g10))) := (hq1321.2 (q + 2) _ (hr_2 hR) rfl).trans ((hq1242.2 (q + 2) _ (hr_2 hR) rfl).trans (fx1254))
          exact hq_athrow hx hb hnx hlocks hZ ⟨rfl, rfl, hP, ⟨z1244, z1245, z1246, z1323, z1324, ho1325, by assumption, by omega⟩, (hm_JH.of eV1 eV5 eV9 fx1329 fx1330 fx1331 (fun j hj => (congrFun ge1132 j).trans (hm_ub (by omega) hj)) (fun j hj => (congrFun ge1171 j).trans (hm_ub (by omega) hj)) rfl (hq_rg hI (hr_2 hR) eV9 0 (by decide)).2)⟩ dX13_readLine_261
      · have c1115 : (y1111).toInt = (60 : Int) := hq_eqi.mp c1115
        refine lv_aload_n hx hb dX13_readLine_102 rfl (lv_at hl 1 rfl) ?_
        refine lv_iconst (v := 4) hx hb dX13_readLine_103 (by decide) ?_
        have hl1341 : (4 : Int32).toInt = 4 := by decide
        refine hp_callq (hp_runV (As := [.int (4)]) (rest := []) hx hb hml hown hts (t_X13_wrong l D cs B G  V22 n hP.1 q hR (mo) h_mo (4) ho28  (by omega) (by omega) (by omega) (by omega) (by omega) (by omega) (by omega) (by omega) ) hZ ho28 cv_X13_107 rfl rfl ⟨Nat.le_of_ble_eq_true rfl, Nat.le_of_ble_eq_true rfl⟩ rfl hl.1 rfl (Nat.le_of_ble_eq_true rfl) dX13_readLine_104 ⟨(Nat.le_of_ble_eq_true rfl), (Nat.le_of_ble_eq_true rfl)⟩) hZ (fun r1335 V1332 n1333 _ _ hw1334 hZ => ?_)
        obtain ⟨rfl, hq1336, ⟨z1338, z1339, ho1340⟩, hr1337⟩ := hw1334
        have hP := hP.trans hq1336 (by intro g h; simp_all)
        have b1342 := hq_rng z1338
        have b1343 := hq_rng z1339
        subst hr1337
        refine W.eq (g2 := F0 m 107 ls [.ref (q + 19)]) rfl ?_
        have fx1344 : V1332 (q + 10) = some (.inl (cs 1, 120, .inl (g2))) := (hq1336.2 (q + 10) _ (hr_10 hR) rfl).trans ((hq26.2 (q + 10) _ (hr_10 hR) rfl).trans ((hq17.2 (q + 10) _ (hr_10 hR) rfl).trans (eV1)))
        have fx1345 : V1332 (q + 14) = some (.inl (cs 1, 120, .inl (g6))) := (hq1336.2 (q + 14) _ (hr_14 hR) rfl).trans ((hq26.2 (q + 14) _ (hr_14 hR) rfl).trans ((hq17.2 (q + 14) _ (hr_14 hR) rfl).trans (eV5)))
        have fx1346 : V1332 (q + 2) = some (.inl (cs 1, 2, .inl (g10))) := (hq1336.2 (q + 2) _ (hr_2 hR) rfl).trans (fx1110)
        exact hq_athrow hx hb hnx hlocks hZ ⟨rfl, rfl, hP, ⟨m_fr, m_bh, m_hd, z1338, z1339, ho1340, by assumption, by omega⟩, (hm_JH.of eV1 eV5 eV9 fx1344 fx1345 fx1346 (fun j hj => rfl) (fun j hj => rfl) rfl (hq_rg hI (hr_2 hR) eV9 0 (by decide)).2)⟩ dX13_readLine_107
  · have c21 : ¬ (r16).toInt = (0 : Int) := fun h9 => c21 (hq_eqi.mpr h9)
    refine lv_iconst (v := 0) hx hb dX13_readLine_9 (by decide) ?_
    refine lv_goto (tgt := 79) hx hb dX13_readLine_10 (by decide) ?_
    refine lv_istore_n (lv' := [(1, .int (0)), (0, .ref (mo))]) hx hb dX13_readLine_79 rfl hl (by decide) rfl (fun ls hl => ?_)
    refine lv_iload_n hx hb dX13_readLine_80 rfl (lv_at hl 0 rfl) ?_
    refine lv_iconst (v := -1) hx hb dX13_readLine_81 (by decide) ?_
    refine lv_icmp_ne (tgt := 91) hx hb dX13_readLine_82 (by decide) (fun c1347 => ?_) (fun c1347 => absurd c1347 (by decide))
    refine lv_aload_n hx hb dX13_readLine_91 rfl (lv_at hl 1 rfl) ?_
    refine hp_get (v := .ref (q + 2)) hx hb hts hown hZ ho19 fl_X13_10 rfl dX13_readLine_92 ?_
    refine lv_iconst (v := 1) hx hb dX13_readLine_95 (by decide) ?_
    have fx1348 : V13 (q + 2) = some (.inl (cs 1, 2, .inl (g10))) := (hq17.2 (q + 2) _ (hr_2 hR) rfl).trans (eV9)
    refine hp_iald hx hb hZ fx1348 (by unfold vp_in; decide) dX13_readLine_96 ?_
    refine lv_topi (fun y1349 ey1350 => ?_)
    have b1352 : (y1349).toInt = ((g10) (1 : Int32).toNatClampNeg).toInt := by rw [ey1350]
    have b1351 : hq_ir (hq_lo 8) (hq_hi 8) y1349 := by rw [ey1350]; exact hf12 _ (by decide)
    have b1351 : 0 ≤ (y1349).toInt ∧ (y1349).toInt ≤ 60 := b1351
    refine lv_bipush (v := 60) hx hb dX13_readLine_97 (by decide) ?_
    refine lv_icmp_ne (tgt := 108) hx hb dX13_readLine_99 (by decide) (fun c1353 => ?_) (fun c1353 => ?_)
    · have c1353 : ¬ (y1349).toInt = (60 : Int) := fun h9 => c1353 (hq_eqi.mpr h9)
      refine lv_bipush (v := 60) hx hb dX13_readLine_108 (by decide) ?_
      refine lv_aload_n hx hb dX13_readLine_110 rfl (lv_at hl 1 rfl) ?_
      refine hp_get (v := .ref (q + 2)) hx hb hts hown hZ ho19 fl_X13_10 rfl dX13_readLine_111 ?_
      refine lv_iconst (v := 1) hx hb dX13_readLine_114 (by decide) ?_
      refine hp_iald hx hb hZ fx1348 (by unfold vp_in; decide) dX13_readLine_115 ?_
      refine lv_topi (fun y1354 ey1355 => ?_)
      have b1357 : (y1354).toInt = ((g10) (1 : Int32).toNatClampNeg).toInt := by rw [ey1355]
      have b1356 : hq_ir (hq_lo 8) (hq_hi 8) y1354 := by rw [ey1355]; exact hf12 _ (by decide)
      have b1356 : 0 ≤ (y1354).toInt ∧ (y1354).toInt ≤ 60 := b1356
      refine lv_iadd hx hb dX13_readLine_116 ?_
      refine lv_topi (fun y1358 ey1359 => ?_)
      obtain ⟨k1360, hk1361, b1362, b1363⟩ := hq_add (60) (y1354)
      rw [← ey1359] at hk1361 b1362 b1363
      have hk1361 : (y1358).toInt = (60 : Int) + (y1354).toInt + k1360 * 4294967296 := hk1361
      obtain rfl : k1360 = 0 := by omega
      refine lv_istore_n (lv' := [(2, .int (y1358)), (1, .int (0)), (0, .ref (mo))]) hx hb dX13_readLine_117 rfl hl (by decide) rfl (fun ls hl => ?_)
      refine lv_aload_n hx hb dX13_readLine_118 rfl (lv_at hl 2 rfl) ?_
      refine hp_get (v := .ref (q + 10)) hx hb hts hown hZ ho19 fl_X13_29 rfl dX13_readLine_119 ?_
      refine lv_iload_n hx hb dX13_readLine_122 rfl (lv_at hl 0 rfl) ?_
      refine lv_iload_n hx hb dX13_readLine_123 rfl (lv_at hl 1 rfl) ?_
      have fx1364 : V13 (q + 10) = some (.inl (cs 1, 120, .inl (g2))) := (hq17.2 (q + 10) _ (hr_10 hR) rfl).trans (eV1)
      refine hp_iast hx hb hZ fx1364 (hq_in (by omega) (by omega)) dX13_readLine_124 (fun V1365 _ _ e1366 o1367 hZ => ?_)
      have e1366 : V1365 (q + 10) = some (.inl (cs 1, 120, .inl (upd (g2) ((y1358 : Int32).toNatClampNeg) (0)))) := e1366
      have hl1368 : (0 : Int32).toInt = 0 := by decide
      have hP := hP.put (hr_10 hR) e1366 o1367 (hq_c21 (by omega) (hq_upd hf4 (hq_rng _))) rfl
      obtain ⟨g1369, ge1370⟩ : ∃ g9 : Nat → Int32, g9 = upd (g2) ((y1358 : Int32).toNatClampNeg) (0) := ⟨_, rfl⟩
      have fx1372 : V1365 (q + 10) = some (.inl (cs 1, 120, .inl (g1369))) := by rw [ge1370]; exact e1366
      have hf1371 := hq_rg hP.1 (hr_10 hR) fx1372
      have b1373 : (g1369 (y1358 : Int32).toNatClampNeg).toInt = (0 : Int32).toInt := congrArg Int32.toInt ((congrFun ge1370 _).trans hm_ue)
      have b1374 : (0 : Int32).toInt = 0 := by decide
      refine lv_aload_n hx hb dX13_readLine_125 rfl (lv_at hl 2 rfl) ?_
      have fx1375 : V1365 (mo) = some (.inr (13, hm_o q (m_tp) (m_sz) (m_fr) (m_bh) (m_hd) (m_ft) (m_fa) (m_le) (m_fo) (m_as) (m_fd) (m_bc) (m_bg) (m_bs) (m_be) (m_b0) (m_b1) (m_cm) (m_hc))) := (o1367 (mo) (hq_tne h_mo (hr_10 hR) (by simp))).trans (ho19)
      refine hp_get (v := .ref (q + 11)) hx hb hts hown hZ fx1375 fl_X13_32 rfl dX13_readLine_126 ?_
      refine lv_iload_n hx hb dX13_readLine_129 rfl (lv_at hl 0 rfl) ?_
      refine lv_iconst (v := -1) hx hb dX13_readLine_130 (by decide) ?_
      obtain ⟨hN1378, g1377, eV1376, hf1379⟩ := hq_o21 hP.1 (hr_11 hR)
      refine hp_iast hx hb hZ eV1376 (hq_in (by omega) (by omega)) dX13_readLine_131 (fun V1380 _ _ e1381 o1382 hZ => ?_)
      have e1381 : V1380 (q + 11) = some (.inl (cs 1, 120, .inl (upd (g1377) ((y1358 : Int32).toNatClampNeg) (-1)))) := e1381
      have hl1383 : (-1 : Int32).toInt = -1 := by decide
      have hP := hP.put (hr_11 hR) e1381 o1382 (hq_c21 (by omega) (hq_upd hf1379 (hq_rng _))) rfl
      refine lv_aload_n hx hb dX13_readLine_132 rfl (lv_at hl 2 rfl) ?_
      have fx1384 : V1380 (mo) = some (.inr (13, hm_o q (m_tp) (m_sz) (m_fr) (m_bh) (m_hd) (m_ft) (m_fa) (m_le) (m_fo) (m_as) (m_fd) (m_bc) (m_bg) (m_bs) (m_be) (m_b0) (m_b1) (m_cm) (m_hc))) := (o1382 (mo) (hq_tne h_mo (hr_11 hR) (by simp))).trans (fx1375)
      refine hp_get (v := .ref (q + 12)) hx hb hts hown hZ fx1384 fl_X13_35 rfl dX13_readLine_133 ?_
      refine lv_iload_n hx hb dX13_readLine_136 rfl (lv_at hl 0 rfl) ?_
      refine lv_iconst (v := -1) hx hb dX13_readLine_137 (by decide) ?_
      obtain ⟨hN1387, g1386, eV1385, hf1388⟩ := hq_o21 hP.1 (hr_12 hR)
      refine hp_iast hx hb hZ eV1385 (hq_in (by omega) (by omega)) dX13_readLine_138 (fun V1389 _ _ e1390 o1391 hZ => ?_)
      have e1390 : V1389 (q + 12) = some (.inl (cs 1, 120, .inl (upd (g1386) ((y1358 : Int32).toNatClampNeg) (-1)))) := e1390
      have hl1392 : (-1 : Int32).toInt = -1 := by decide
      have hP := hP.put (hr_12 hR) e1390 o1391 (hq_c21 (by omega) (hq_upd hf1388 (hq_rng _))) rfl
      refine lv_aload_n hx hb dX13_readLine_139 rfl (lv_at hl 2 rfl) ?_
      have fx1393 : V1389 (mo) = some (.inr (13, hm_o q (m_tp) (m_sz) (m_fr) (m_bh) (m_hd) (m_ft) (m_fa) (m_le) (m_fo) (m_as) (m_fd) (m_bc) (m_bg) (m_bs) (m_be) (m_b0) (m_b1) (m_cm) (m_hc))) := (o1391 (mo) (hq_tne h_mo (hr_12 hR) (by simp))).trans (fx1384)
      refine hp_get (v := .ref (q + 13)) hx hb hts hown hZ fx1393 fl_X13_38 rfl dX13_readLine_140 ?_
      refine lv_iload_n hx hb dX13_readLine_143 rfl (lv_at hl 0 rfl) ?_
      refine lv_iconst (v := -1) hx hb dX13_readLine_144 (by decide) ?_
      obtain ⟨hN1396, g1395, eV1394, hf1397⟩ := hq_o21 hP.1 (hr_13 hR)
      refine hp_iast hx hb hZ eV1394 (hq_in (by omega) (by omega)) dX13_readLine_145 (fun V1398 _ _ e1399 o1400 hZ => ?_)
      have e1399 : V1398 (q + 13) = some (.inl (cs 1, 120, .inl (upd (g1395) ((y1358 : Int32).toNatClampNeg) (-1)))) := e1399
      have hl1401 : (-1 : Int32).toInt = -1 := by decide
      have hP := hP.put (hr_13 hR) e1399 o1400 (hq_c21 (by omega) (hq_upd hf1397 (hq_rng _))) rfl
      refine lv_aload_n hx hb dX13_readLine_146 rfl (lv_at hl 2 rfl) ?_
      have fx1402 : V1398 (mo) = some (.inr (13, hm_o q (m_tp) (m_sz) (m_fr) (m_bh) (m_hd) (m_ft) (m_fa) (m_le) (m_fo) (m_as) (m_fd) (m_bc) (m_bg) (m_bs) (m_be) (m_b0) (m_b1) (m_cm) (m_hc))) := (o1400 (mo) (hq_tne h_mo (hr_13 hR) (by simp))).trans (fx1393)
      refine hp_get (v := .ref (q + 14)) hx hb hts hown hZ fx1402 fl_X13_41 rfl dX13_readLine_147 ?_
      refine lv_iload_n hx hb dX13_readLine_150 rfl (lv_at hl 0 rfl) ?_
      refine lv_iconst (v := 0) hx hb dX13_readLine_151 (by decide) ?_
      have fx1403 : V1398 (q + 14) = some (.inl (cs 1, 120, .inl (g6))) := (o1400 (q + 14) (hq_ne q 14 13 (by decide))).trans ((o1391 (q + 14) (hq_ne q 14 12 (by decide))).trans ((o1382 (q + 14) (hq_ne q 14 11 (by decide))).trans ((o1367 (q + 14) (hq_ne q 14 10 (by decide))).trans ((hq17.2 (q + 14) _ (hr_14 hR) rfl).trans (eV5)))))
      refine hp_iast hx hb hZ fx1403 (hq_in (by omega) (by omega)) dX13_readLine_152 (fun V1404 _ _ e1405 o1406 hZ => ?_)
      have e1405 : V1404 (q + 14) = some (.inl (cs 1, 120, .inl (upd (g6) ((y1358 : Int32).toNatClampNeg) (0)))) := e1405
      have hl1407 : (0 : Int32).toInt = 0 := by decide
      have hP := hP.put (hr_14 hR) e1405 o1406 (hq_c21 (by omega) (hq_upd hf8 (show 0 ≤ _ ∧ _ ≤ 8 by constructor <;> omega))) rfl
      obtain ⟨g1408, ge1409⟩ : ∃ g9 : Nat → Int32, g9 = upd (g6) ((y1358 : Int32).toNatClampNeg) (0) := ⟨_, rfl⟩
      have fx1411 : V1404 (q + 14) = some (.inl (cs 1, 120, .inl (g1408))) := by rw [ge1409]; exact e1405
      have hf1410 := hq_rg hP.1 (hr_14 hR) fx1411
      have b1412 : (g1408 (y1358 : Int32).toNatClampNeg).toInt = (0 : Int32).toInt := congrArg Int32.toInt ((congrFun ge1409 _).trans hm_ue)
      have b1413 : (0 : Int32).toInt = 0 := by decide
      refine lv_aload_n hx hb dX13_readLine_153 rfl (lv_at hl 2 rfl) ?_
      have fx1414 : V1404 (mo) = some (.inr (13, hm_o q (m_tp) (m_sz) (m_fr) (m_bh) (m_hd) (m_ft) (m_fa) (m_le) (m_fo) (m_as) (m_fd) (m_bc) (m_bg) (m_bs) (m_be) (m_b0) (m_b1) (m_cm) (m_hc))) := (o1406 (mo) (hq_tne h_mo (hr_14 hR) (by simp))).trans (fx1402)
      refine hp_get (v := .ref (q + 15)) hx hb hts hown hZ fx1414 fl_X13_44 rfl dX13_readLine_154 ?_
      refine lv_iload_n hx hb dX13_readLine_157 rfl (lv_at hl 0 rfl) ?_
      refine lv_iconst (v := 0) hx hb dX13_readLine_158 (by decide) ?_
      obtain ⟨hN1417, g1416, eV1415, hf1418⟩ := hq_o21 hP.1 (hr_15 hR)
      refine hp_iast hx hb hZ eV1415 (hq_in (by omega) (by omega)) dX13_readLine_159 (fun V1419 _ _ e1420 o1421 hZ => ?_)
      have e1420 : V1419 (q + 15) = some (.inl (cs 1, 120, .inl (upd (g1416) ((y1358 : Int32).toNatClampNeg) (0)))) := e1420
      have hl1422 : (0 : Int32).toInt = 0 := by decide
      have hP := hP.put (hr_15 hR) e1420 o1421 (hq_c21 (by omega) (hq_upd hf1418 (show 0 ≤ _ ∧ _ ≤ 8 by constructor <;> omega))) rfl
      refine lv_aload_n hx hb dX13_readLine_160 rfl (lv_at hl 2 rfl) ?_
      have fx1423 : V1419 (mo) = some (.inr (13, hm_o q (m_tp) (m_sz) (m_fr) (m_bh) (m_hd) (m_ft) (m_fa) (m_le) (m_fo) (m_as) (m_fd) (m_bc) (m_bg) (m_bs) (m_be) (m_b0) (m_b1) (m_cm) (m_hc))) := (o1421 (mo) (hq_tne h_mo (hr_15 hR) (by simp))).trans (fx1414)
      refine hp_get (v := .ref (q + 16)) hx hb hts hown hZ fx1423 fl_X13_47 rfl dX13_readLine_161 ?_
      refine lv_iload_n hx hb dX13_readLine_164 rfl (lv_at hl 0 rfl) ?_
      refine lv_iconst (v := 0) hx hb dX13_readLine_165 (by decide) ?_
      obtain ⟨hN1426, g1425, eV1424, hf1427⟩ := hq_o21 hP.1 (hr_16 hR)
      refine hp_iast hx hb hZ eV1424 (hq_in (by omega) (by omega)) dX13_readLine_166 (fun V1428 _ _ e1429 o1430 hZ => ?_)
      have e1429 : V1428 (q + 16) = some (.inl (cs 1, 120, .inl (upd (g1425) ((y1358 : Int32).toNatClampNeg) (0)))) := e1429
      have hl1431 : (0 : Int32).toInt = 0 := by decide
      have hP := hP.put (hr_16 hR) e1429 o1430 (hq_c21 (by omega) (hq_upd hf1427 (show 0 ≤ _ ∧ _ ≤ 29 by constructor <;> omega))) rfl
      refine lv_aload_n hx hb dX13_readLine_167 rfl (lv_at hl 2 rfl) ?_
      have fx1438 : V1428 (mo) = some (.inr (13, hm_o q (m_tp) (m_sz) (m_fr) (m_bh) (m_hd) (m_ft) (m_fa) (m_le) (m_fo) (m_as) (m_fd) (m_bc) (m_bg) (m_bs) (m_be) (m_b0) (m_b1) (m_cm) (m_hc))) := (o1430 (mo) (hq_tne h_mo (hr_16 hR) (by simp))).trans (fx1423)
      refine hp_callv (hp_runV (As := []) (rest := []) hx hb hml hown hts (t_X13_scan l D cs B G  V1428 n hP.1 q hR (mo) h_mo fx1438  (by omega) (by omega) (by omega) (by omega) (by omega) (by omega) (by omega) (by omega) (hm_SC.s0 (by assumption)) (hm_SC.s1 (by assumption) (by first | omega | (have h8 := hm_Is.hd (by assumption) (by omega); omega)))) hZ fx1438 cv_X13_111 rfl rfl ⟨Nat.le_of_ble_eq_true rfl, Nat.le_of_ble_eq_true rfl⟩ rfl hl.1 rfl (Nat.le_of_ble_eq_true rfl) dX13_readLine_168 ⟨(Nat.le_of_ble_eq_true rfl), (Nat.le_of_ble_eq_true rfl)⟩) hZ (fun V1432 n1433 _ _ hw1434 hZ => ?_)
      obtain ⟨rfl, hq1436, ⟨z1439, z1440, z1441, ho1442, hi1443, hi1444, hi1445⟩⟩ := hw1434
      have hP := hP.trans hq1436 (by intro g h; simp_all)
      have b1446 := hq_rng z1439
      have b1447 := hq_rng z1440
      have b1448 := hq_rng z1441
      refine lv_iload_n hx hb dX13_readLine_171 rfl (lv_at hl 1 rfl) ?_
      refine lv_iconst (v := 4) hx hb dX13_readLine_172 (by decide) ?_
      refine lv_icmp_eq (tgt := 181) hx hb dX13_readLine_173 (by decide) (fun c1449 => absurd c1449 (by decide)) (fun c1449 => ?_)
      refine lv_iload_n hx hb dX13_readLine_176 rfl (lv_at hl 1 rfl) ?_
      refine lv_iconst (v := 5) hx hb dX13_readLine_177 (by decide) ?_
      refine lv_icmp_ne (tgt := 194) hx hb dX13_readLine_178 (by decide) (fun c1450 => ?_) (fun c1450 => absurd c1450 (by decide))
      refine lv_iload_n hx hb dX13_readLine_194 rfl (lv_at hl 1 rfl) ?_
      refine lv_iconst (v := 2) hx hb dX13_readLine_195 (by decide) ?_
      refine lv_icmp_eq (tgt := 204) hx hb dX13_readLine_196 (by decide) (fun c1451 => absurd c1451 (by decide)) (fun c1451 => ?_)
      refine lv_aload_n hx hb dX13_readLine_199 rfl (lv_at hl 2 rfl) ?_
      refine lv_iload_n hx hb dX13_readLine_200 rfl (lv_at hl 0 rfl) ?_
      have fx1466 : V1432 (q + 10) = some (.inl (cs 1, 120, .inl (g1369))) := (hq1436.2 (q + 10) _ (hr_10 hR) rfl).trans ((o1430 (q + 10) (hq_ne q 10 16 (by decide))).trans ((o1421 (q + 10) (hq_ne q 10 15 (by decide))).trans ((o1406 (q + 10) (hq_ne q 10 14 (by decide))).trans ((o1400 (q + 10) (hq_ne q 10 13 (by decide))).trans ((o1391 (q + 10) (hq_ne q 10 12 (by decide))).trans ((o1382 (q + 10) (hq_ne q 10 11 (by decide))).trans (fx1372)))))))
      have fx1467 : V1432 (q + 14) = some (.inl (cs 1, 120, .inl (g1408))) := (hq1436.2 (q + 14) _ (hr_14 hR) rfl).trans ((o1430 (q + 14) (hq_ne q 14 16 (by decide))).trans ((o1421 (q + 14) (hq_ne q 14 15 (by decide))).trans (fx1411)))
      have fx1468 : V1432 (q + 2) = some (.inl (cs 1, 2, .inl (g10))) := (hq1436.2 (q + 2) _ (hr_2 hR) rfl).trans ((o1430 (q + 2) (hq_ne q 2 16 (by decide))).trans ((o1421 (q + 2) (hq_ne q 2 15 (by decide))).trans ((o1406 (q + 2) (hq_ne q 2 14 (by decide))).trans ((o1400 (q + 2) (hq_ne q 2 13 (by decide))).trans ((o1391 (q + 2) (hq_ne q 2 12 (by decide))).trans ((o1382 (q + 2) (hq_ne q 2 11 (by decide))).trans ((o1367 (q + 2) (hq_ne q 2 10 (by decide))).trans (fx1348))))))))
      refine hq_callx (hq_runV (As := [.int (y1358)]) (rest := []) hx hb hml hown hts (t_X13_readWhere l D cs B G  V1432 n hP.1 q hR (mo) h_mo (y1358) ho1442  (by omega) (by omega) (by omega) (by omega) (by omega) (by omega) (by omega) (by omega) (by assumption) (by omega) (by omega)) hZ ho1442 cv_X13_185 rfl rfl ⟨Nat.le_of_ble_eq_true rfl, Nat.le_of_ble_eq_true rfl⟩ rfl hl.1 rfl (Nat.le_of_ble_eq_true rfl) dX13_readLine_201 ⟨(Nat.le_of_ble_eq_true rfl), (Nat.le_of_ble_eq_true rfl)⟩) hZ hnx hlocks (by rintro x9 V9 n9 ⟨rfl, rfl, hq9, ⟨z1458x, z1459x, z1460x, z1461x, z1462x, hox0, hix00, hix01⟩⟩; have hbxz1458 := hq_rng z1458x; have hbxz1459 := hq_rng z1459x; have hbxz1460 := hq_rng z1460x; have hbxz1461 := hq_rng z1461x; have hbxz1462 := hq_rng z1462x; exact ⟨rfl, rfl, hP.trans hq9 (by intro g h; simp_all), ⟨z1458x, z1459x, z1460x, z1461x, z1462x, hox0, by assumption, by omega⟩, ((hm_JH.of eV1 eV5 eV9 fx1466 fx1467 fx1468 (fun j hj => (congrFun ge1370 j).trans (hm_ub (by omega) hj)) (fun j hj => (congrFun ge1409 j).trans (hm_ub (by omega) hj)) rfl (hq_rg hI (hr_2 hR) eV9 0 (by decide)).2)).keep hR (fun x t hx hg => hq9.2 x t hx (by simp [hg]))⟩) (fun v9 V1452 n1453 _ _ hw1454 hZ => ?_)
      obtain ⟨rfl, rfl, hq1456, ⟨z1458, z1459, z1460, z1461, z1462, ho1463, hi1464, hi1465⟩⟩ := hw1454
      refine W.eq (g2 := F0 m 204 ls []) rfl ?_
      have hP := hP.trans hq1456 (by intro g h; simp_all)
      have b1469 := hq_rng z1458
      have b1470 := hq_rng z1459
      have b1471 := hq_rng z1460
      have b1472 := hq_rng z1461
      have b1473 := hq_rng z1462
      refine lv_iload_n hx hb dX13_readLine_204 rfl (lv_at hl 1 rfl) ?_
      refine lv_iconst (v := 2) hx hb dX13_readLine_205 (by decide) ?_
      refine lv_icmp_eq (tgt := 219) hx hb dX13_readLine_206 (by decide) (fun c1474 => absurd c1474 (by decide)) (fun c1474 => ?_)
      refine lv_iload_n hx hb dX13_readLine_209 rfl (lv_at hl 1 rfl) ?_
      refine lv_iconst (v := 3) hx hb dX13_readLine_210 (by decide) ?_
      refine lv_icmp_eq (tgt := 219) hx hb dX13_readLine_211 (by decide) (fun c1475 => absurd c1475 (by decide)) (fun c1475 => ?_)
      refine lv_aload_n hx hb dX13_readLine_214 rfl (lv_at hl 2 rfl) ?_
      refine lv_iload_n hx hb dX13_readLine_215 rfl (lv_at hl 0 rfl) ?_
      have fx1490 : V1452 (q + 10) = some (.inl (cs 1, 120, .inl (g1369))) := (hq1456.2 (q + 10) _ (hr_10 hR) rfl).trans (fx1466)
      have fx1491 : V1452 (q + 14) = some (.inl (cs 1, 120, .inl (g1408))) := (hq1456.2 (q + 14) _ (hr_14 hR) rfl).trans (fx1467)
      have fx1492 : V1452 (q + 2) = some (.inl (cs 1, 2, .inl (g10))) := (hq1456.2 (q + 2) _ (hr_2 hR) rfl).trans (fx1468)
      refine hq_callx (hq_runV (As := [.int (y1358)]) (rest := []) hx hb hml hown hts (t_X13_readSlot l D cs B G  V1452 n hP.1 q hR (mo) h_mo (y1358) ho1463  (by omega) (by omega) (by omega) (by omega) (by omega) (by omega) (by omega) (by omega) (by assumption) (by omega) (by omega)) hZ ho1463 cv_X13_189 rfl rfl ⟨Nat.le_of_ble_eq_true rfl, Nat.le_of_ble_eq_true rfl⟩ rfl hl.1 rfl (Nat.le_of_ble_eq_true rfl) dX13_readLine_216 ⟨(Nat.le_of_ble_eq_true rfl), (Nat.le_of_ble_eq_true rfl)⟩) hZ hnx hlocks (by rintro x9 V9 n9 ⟨rfl, rfl, hq9, ⟨z1482x, z1483x, z1484x, z1485x, z1486x, hox0, hix00, hix01⟩⟩; have hbxz1482 := hq_rng z1482x; have hbxz1483 := hq_rng z1483x; have hbxz1484 := hq_rng z1484x; have hbxz1485 := hq_rng z1485x; have hbxz1486 := hq_rng z1486x; exact ⟨rfl, rfl, hP.trans hq9 (by intro g h; simp_all), ⟨z1482x, z1483x, z1484x, z1485x, z1486x, hox0, by assumption, by omega⟩, ((hm_JH.of eV1 eV5 eV9 fx1490 fx1491 fx1492 (fun j hj => (congrFun ge1370 j).trans (hm_ub (by omega) hj)) (fun j hj => (congrFun ge1409 j).trans (hm_ub (by omega) hj)) rfl (hq_rg hI (hr_2 hR) eV9 0 (by decide)).2)).keep hR (fun x t hx hg => hq9.2 x t hx (by simp [hg]))⟩) (fun v9 V1476 n1477 _ _ hw1478 hZ => ?_)
      obtain ⟨rfl, rfl, hq1480, ⟨z1482, z1483, z1484, z1485, z1486, ho1487, hi1488, hi1489⟩⟩ := hw1478
      refine W.eq (g2 := F0 m 219 ls []) rfl ?_
      have hP := hP.trans hq1480 (by intro g h; simp_all)
      have b1493 := hq_rng z1482
      have b1494 := hq_rng z1483
      have b1495 := hq_rng z1484
      have b1496 := hq_rng z1485
      have b1497 := hq_rng z1486
      refine lv_iload_n hx hb dX13_readLine_219 rfl (lv_at hl 1 rfl) ?_
      refine lv_iconst (v := 3) hx hb dX13_readLine_220 (by decide) ?_
      refine lv_icmp_ne (tgt := 229) hx hb dX13_readLine_221 (by decide) (fun c1498 => ?_) (fun c1498 => absurd c1498 (by decide))
      refine lv_iload_n hx hb dX13_readLine_229 rfl (lv_at hl 1 rfl) ?_
      refine lv_if_eq (tgt := 248) hx hb dX13_readLine_230 (by decide) (fun c1499 => ?_) (fun c1499 => absurd (by decide) c1499)
      refine lv_aload_n hx hb dX13_readLine_248 rfl (lv_at hl 2 rfl) ?_
      refine hp_get (v := .int (z1484)) hx hb hts hown hZ ho1487 fl_X13_83 rfl dX13_readLine_249 ?_
      refine lv_iconst (v := 3) hx hb dX13_readLine_252 (by decide) ?_
      refine lv_icmp_eq (tgt := 262) hx hb dX13_readLine_253 (by decide) (fun c1500 => ?_) (fun c1500 => ?_)
      · have c1500 : (z1484).toInt = (3 : Int) := hq_eqi.mp c1500
        refine lv_iload_n hx hb dX13_readLine_262 rfl (lv_at hl 1 rfl) ?_
        refine lv_iconst (v := 4) hx hb dX13_readLine_263 (by decide) ?_
        refine lv_icmp_ne (tgt := 282) hx hb dX13_readLine_264 (by decide) (fun c1501 => ?_) (fun c1501 => absurd c1501 (by decide))
        refine lv_iload_n hx hb dX13_readLine_282 rfl (lv_at hl 1 rfl) ?_
        refine lv_iconst (v := 1) hx hb dX13_readLine_283 (by decide) ?_
        refine lv_icmp_eq (tgt := 306) hx hb dX13_readLine_284 (by decide) (fun c1502 => absurd c1502 (by decide)) (fun c1502 => ?_)
        have h3b := hm_SC.a3 (by assumption : hm_SC m_sz z1482 z1483 z1484) (by omega)
        refine lv_aload_n hx hb dX13_readLine_287 rfl (lv_at hl 2 rfl) ?_
        refine hp_get (v := .int (z1483)) hx hb hts hown hZ ho1487 fl_X13_76 rfl dX13_readLine_288 ?_
        refine lv_aload_n hx hb dX13_readLine_291 rfl (lv_at hl 2 rfl) ?_
        refine hp_get (v := .int (z1482)) hx hb hts hown hZ ho1487 fl_X13_60 rfl dX13_readLine_292 ?_
        refine lv_isub hx hb dX13_readLine_295 ?_
        refine lv_topi (fun y1503 ey1504 => ?_)
        obtain ⟨k1505, hk1506, b1507, b1508⟩ := hq_sub (z1483) (z1482)
        rw [← ey1504] at hk1506 b1507 b1508
        have hk1506 : (y1503).toInt = (z1483).toInt - (z1482).toInt + k1505 * 4294967296 := hk1506
        obtain rfl : k1505 = 0 := by omega
        refine lv_iconst (v := 2) hx hb dX13_readLine_296 (by decide) ?_
        refine lv_icmp_ne (tgt := 306) hx hb dX13_readLine_297 (by decide) (fun c1509 => ?_) (fun c1509 => ?_)
        · have c1509 : ¬ (y1503).toInt = (2 : Int) := fun h9 => c1509 (hq_eqi.mpr h9)
          refine lv_aload_n hx hb dX13_readLine_306 rfl (lv_at hl 2 rfl) ?_
          refine hp_get (v := .ref (q + 14)) hx hb hts hown hZ ho1487 fl_X13_41 rfl dX13_readLine_307 ?_
          refine lv_iload_n hx hb dX13_readLine_310 rfl (lv_at hl 0 rfl) ?_
          refine lv_aload_n hx hb dX13_readLine_311 rfl (lv_at hl 2 rfl) ?_
          refine lv_aload_n hx hb dX13_readLine_312 rfl (lv_at hl 2 rfl) ?_
          refine hp_get (v := .ref (q + 5)) hx hb hts hown hZ ho1487 fl_X13_23 rfl dX13_readLine_313 ?_
          refine lv_iload_n hx hb dX13_readLine_316 rfl (lv_at hl 0 rfl) ?_
          have h3a := hm_SC.a3 (by assumption : hm_SC m_sz z1482 z1483 z1484) (by omega)
          refine hp_calli (hp_runV (As := [.ref (q + 5), .int (y1358)]) (rest := [.int (y1358), .ref (q + 14)]) hx hb hml hown hts (t_X13_takeLetters l D cs B G  V1476 n hP.1 q hR (mo) h_mo (q + 5) (hr_5 hR) (y1358) ho1487  (by omega) (by omega) (by omega) (by omega) (by omega) (by omega) (by omega) (by omega) (by assumption) (by omega) (by omega) (by omega)) hZ ho1487 cv_X13_198 rfl rfl ⟨Nat.le_of_ble_eq_true rfl, Nat.le_of_ble_eq_true rfl⟩ rfl hl.1 rfl (Nat.le_of_ble_eq_true rfl) dX13_readLine_317 ⟨(Nat.le_of_ble_eq_true rfl), (Nat.le_of_ble_eq_true rfl)⟩) hZ (fun r1513 V1510 n1511 _ _ hw1512 hZ => ?_)
          obtain ⟨rfl, hq1514, ⟨z1516, z1517, z1518, ho1519, hi1520, hi1521⟩, hr1515⟩ := hw1512
          have hP := hP.trans hq1514 (by intro g h; simp_all)
          have b1522 := hq_rng z1516
          have b1523 := hq_rng z1517
          have b1524 := hq_rng z1518
          have b1525 := hq_rng r1513
          have fx1526 : V1510 (q + 14) = some (.inl (cs 1, 120, .inl (g1408))) := (hq1514.2 (q + 14) _ (hr_14 hR) rfl).trans ((hq1480.2 (q + 14) _ (hr_14 hR) rfl).trans (fx1491))
          refine hp_iast hx hb hZ fx1526 (hq_in (by omega) (by omega)) dX13_readLine_320 (fun V1527 _ _ e1528 o1529 hZ => ?_)
          have e1528 : V1527 (q + 14) = some (.inl (cs 1, 120, .inl (upd (g1408) ((y1358 : Int32).toNatClampNeg) (r1513)))) := e1528
          have hP := hP.put (hr_14 hR) e1528 o1529 (hq_c21 (by omega) (hq_upd hf1410 (show 0 ≤ _ ∧ _ ≤ 8 by constructor <;> omega))) rfl
          obtain ⟨g1530, ge1531⟩ : ∃ g9 : Nat → Int32, g9 = upd (g1408) ((y1358 : Int32).toNatClampNeg) (r1513) := ⟨_, rfl⟩
          have fx1533 : V1527 (q + 14) = some (.inl (cs 1, 120, .inl (g1530))) := by rw [ge1531]; exact e1528
          have hf1532 := hq_rg hP.1 (hr_14 hR) fx1533
          have b1534 : (g1530 (y1358 : Int32).toNatClampNeg).toInt = (r1513 : Int32).toInt := congrArg Int32.toInt ((congrFun ge1531 _).trans hm_ue)
          refine lv_iload_n hx hb dX13_readLine_321 rfl (lv_at hl 1 rfl) ?_
          refine lv_if_eq (tgt := 330) hx hb dX13_readLine_322 (by decide) (fun c1535 => ?_) (fun c1535 => absurd (by decide) c1535)
          refine lv_aload_n hx hb dX13_readLine_330 rfl (lv_at hl 2 rfl) ?_
          refine va_ldcS (tx := (hp_so.getD 5 ("", 0, "")).2.2) (q := cs (100 + 5)) hx hb hown (hZ.2.2.2.2.2.2.2.2.2.2 5 (by decide)) dX13_readLine_331 ?_
          have fx1542 : V1527 (mo) = some (.inr (13, hm_o q (m_tp) (m_sz) (z1516) (z1517) (z1518) (z1485) (z1486) (m_le) (m_fo) (m_as) (m_fd) (m_bc) (m_bg) (m_bs) (m_be) (m_b0) (m_b1) (m_cm) (m_hc))) := (o1529 (mo) (hq_tne h_mo (hr_14 hR) (by simp))).trans (ho1519)
          have fx1551 : V1527 (q + 10) = some (.inl (cs 1, 120, .inl (g1369))) := (o1529 (q + 10) (hq_ne q 10 14 (by decide))).trans ((hq1514.2 (q + 10) _ (hr_10 hR) rfl).trans ((hq1480.2 (q + 10) _ (hr_10 hR) rfl).trans (fx1490)))
          have fx1552 : V1527 (q + 2) = some (.inl (cs 1, 2, .inl (g10))) := (o1529 (q + 2) (hq_ne q 2 14 (by decide))).trans ((hq1514.2 (q + 2) _ (hr_2 hR) rfl).trans ((hq1480.2 (q + 2) _ (hr_2 hR) rfl).trans (fx1492)))
          refine hq_callx (hq_runV (As := [.ref (cs (100 + 5))]) (rest := []) hx hb hml hown hts (t_X13_need l D cs B G  V1527 n hP.1 q hR (mo) h_mo 5 (by decide) fx1542  (by omega) (by omega) (by omega) (by omega) (by omega) (by omega) (by omega) (by omega) (by assumption) ) hZ fx1542 cv_X13_172 rfl rfl ⟨Nat.le_of_ble_eq_true rfl, Nat.le_of_ble_eq_true rfl⟩ rfl hl.1 rfl (Nat.le_of_ble_eq_true rfl) dX13_readLine_333 ⟨(Nat.le_of_ble_eq_true rfl), (Nat.le_of_ble_eq_true rfl)⟩) hZ hnx hlocks (by rintro x9 V9 n9 ⟨rfl, rfl, hq9, ⟨z1543x, z1544x, z1545x, z1546x, z1547x, hox0, hix00, hix01⟩⟩; have hbxz1543 := hq_rng z1543x; have hbxz1544 := hq_rng z1544x; have hbxz1545 := hq_rng z1545x; have hbxz1546 := hq_rng z1546x; have hbxz1547 := hq_rng z1547x; exact ⟨rfl, rfl, hP.trans hq9 (by intro g h; simp_all), ⟨z1543x, z1544x, z1545x, z1546x, z1547x, hox0, by assumption, by omega⟩, ((hm_JH.of eV1 eV5 eV9 fx1551 fx1533 fx1552 (fun j hj => (congrFun ge1370 j).trans (hm_ub (by omega) hj)) (fun j hj => ((congrFun ge1531 j).trans (hm_ub (by omega) hj)).trans ((congrFun ge1409 j).trans (hm_ub (by omega) hj))) rfl (hq_rg hI (hr_2 hR) eV9 0 (by decide)).2)).keep hR (fun x t hx hg => hq9.2 x t hx (by simp [hg]))⟩) (fun v9 V1536 n1537 _ _ hw1538 hZ => ?_)
          obtain ⟨rfl, rfl, hq1540, ⟨z1543, z1544, z1545, z1546, z1547, ho1548, hi1549, hi1550⟩⟩ := hw1538
          refine W.eq (g2 := F0 m 336 ls []) rfl ?_
          have hP := hP.trans hq1540 (by intro g h; simp_all)
          have b1553 := hq_rng z1543
          have b1554 := hq_rng z1544
          have b1555 := hq_rng z1545
          have b1556 := hq_rng z1546
          have b1557 := hq_rng z1547
          refine lv_aload_n hx hb dX13_readLine_336 rfl (lv_at hl 2 rfl) ?_
          refine hp_get (v := .int (z1545)) hx hb hts hown hZ ho1548 fl_X13_83 rfl dX13_readLine_337 ?_
          refine lv_iconst (v := 3) hx hb dX13_readLine_340 (by decide) ?_
          refine lv_icmp_eq (tgt := 350) hx hb dX13_readLine_341 (by decide) (fun c1558 => ?_) (fun c1558 => ?_)
          · have c1558 : (z1545).toInt = (3 : Int) := hq_eqi.mp c1558
            refine lv_aload_n hx hb dX13_readLine_350 rfl (lv_at hl 2 rfl) ?_
            refine hp_get (v := .ref (q + 15)) hx hb hts hown hZ ho1548 fl_X13_44 rfl dX13_readLine_351 ?_
            refine lv_iload_n hx hb dX13_readLine_354 rfl (lv_at hl 0 rfl) ?_
            refine lv_aload_n hx hb dX13_readLine_355 rfl (lv_at hl 2 rfl) ?_
            refine lv_aload_n hx hb dX13_readLine_356 rfl (lv_at hl 2 rfl) ?_
            refine hp_get (v := .ref (q + 6)) hx hb hts hown hZ ho1548 fl_X13_26 rfl dX13_readLine_357 ?_
            refine lv_iload_n hx hb dX13_readLine_360 rfl (lv_at hl 0 rfl) ?_
            have h3a := hm_SC.a3 (by assumption : hm_SC m_sz z1543 z1544 z1545) (by omega)
            refine hp_calli (hp_runV (As := [.ref (q + 6), .int (y1358)]) (rest := [.int (y1358), .ref (q + 15)]) hx hb hml hown hts (t_X13_takeLetters l D cs B G  V1536 n hP.1 q hR (mo) h_mo (q + 6) (hr_6 hR) (y1358) ho1548  (by omega) (by omega) (by omega) (by omega) (by omega) (by omega) (by omega) (by omega) (by assumption) (by omega) (by omega) (by omega)) hZ ho1548 cv_X13_198 rfl rfl ⟨Nat.le_of_ble_eq_true rfl, Nat.le_of_ble_eq_true rfl⟩ rfl hl.1 rfl (Nat.le_of_ble_eq_true rfl) dX13_readLine_361 ⟨(Nat.le_of_ble_eq_true rfl), (Nat.le_of_ble_eq_true rfl)⟩) hZ (fun r1562 V1559 n1560 _ _ hw1561 hZ => ?_)
            obtain ⟨rfl, hq1563, ⟨z1565, z1566, z1567, ho1568, hi1569, hi1570⟩, hr1564⟩ := hw1561
            have hP := hP.trans hq1563 (by intro g h; simp_all)
            have b1571 := hq_rng z1565
            have b1572 := hq_rng z1566
            have b1573 := hq_rng z1567
            have b1574 := hq_rng r1562
            obtain ⟨hN1577, g1576, eV1575, hf1578⟩ := hq_o21 hP.1 (hr_15 hR)
            refine hp_iast hx hb hZ eV1575 (hq_in (by omega) (by omega)) dX13_readLine_364 (fun V1579 _ _ e1580 o1581 hZ => ?_)
            have e1580 : V1579 (q + 15) = some (.inl (cs 1, 120, .inl (upd (g1576) ((y1358 : Int32).toNatClampNeg) (r1562)))) := e1580
            have hP := hP.put (hr_15 hR) e1580 o1581 (hq_c21 (by omega) (hq_upd hf1578 (show 0 ≤ _ ∧ _ ≤ 8 by constructor <;> omega))) rfl
            refine lv_iload_n hx hb dX13_readLine_365 rfl (lv_at hl 1 rfl) ?_
            refine lv_iconst (v := 2) hx hb dX13_readLine_366 (by decide) ?_
            refine lv_icmp_ne (tgt := 390) hx hb dX13_readLine_367 (by decide) (fun c1582 => ?_) (fun c1582 => absurd c1582 (by decide))
            refine lv_aload_n hx hb dX13_readLine_390 rfl (lv_at hl 2 rfl) ?_
            have fx1583 : V1579 (mo) = some (.inr (13, hm_o q (m_tp) (m_sz) (z1565) (z1566) (z1567) (z1546) (z1547) (m_le) (m_fo) (m_as) (m_fd) (m_bc) (m_bg) (m_bs) (m_be) (m_b0) (m_b1) (m_cm) (m_hc))) := (o1581 (mo) (hq_tne h_mo (hr_15 hR) (by simp))).trans (ho1568)
            refine hp_get (v := .ref (q + 2)) hx hb hts hown hZ fx1583 fl_X13_10 rfl dX13_readLine_391 ?_
            refine lv_iconst (v := 1) hx hb dX13_readLine_394 (by decide) ?_
            refine lv_dup2_11 hx hb dX13_readLine_395 rfl rfl ?_
            have fx1584 : V1579 (q + 2) = some (.inl (cs 1, 2, .inl (g10))) := (o1581 (q + 2) (hq_ne q 2 15 (by decide))).trans ((hq1563.2 (q + 2) _ (hr_2 hR) rfl).trans ((hq1540.2 (q + 2) _ (hr_2 hR) rfl).trans (fx1552)))
            refine hp_iald hx hb hZ fx1584 (by unfold vp_in; decide) dX13_readLine_396 ?_
            refine lv_topi (fun y1585 ey1586 => ?_)
            have b1588 : (y1585).toInt = ((g10) (1 : Int32).toNatClampNeg).toInt := by rw [ey1586]
            have b1587 : hq_ir (hq_lo 8) (hq_hi 8) y1585 := by rw [ey1586]; exact hf12 _ (by decide)
            have b1587 : 0 ≤ (y1585).toInt ∧ (y1585).toInt ≤ 60 := b1587
            refine lv_iconst (v := 1) hx hb dX13_readLine_397 (by decide) ?_
            refine lv_iadd hx hb dX13_readLine_398 ?_
            refine lv_topi (fun y1589 ey1590 => ?_)
            obtain ⟨k1591, hk1592, b1593, b1594⟩ := hq_add (y1585) (1)
            rw [← ey1590] at hk1592 b1593 b1594
            have hk1592 : (y1589).toInt = (y1585).toInt + (1 : Int) + k1591 * 4294967296 := hk1592
            obtain rfl : k1591 = 0 := by omega
            refine hp_iast hx hb hZ fx1584 (by unfold vp_in; decide) dX13_readLine_399 (fun V1595 _ _ e1596 o1597 hZ => ?_)
            have e1596 : V1595 (q + 2) = some (.inl (cs 1, 2, .inl (upd (g10) ((1 : Int32).toNatClampNeg) (y1589)))) := e1596
            have hP := hP.put (hr_2 hR) e1596 o1597 (hq_c21 (by omega) (hq_upd hf12 (show 0 ≤ _ ∧ _ ≤ 60 by constructor <;> omega))) rfl
            obtain ⟨g1598, ge1599⟩ : ∃ g9 : Nat → Int32, g9 = upd (g10) ((1 : Int32).toNatClampNeg) (y1589) := ⟨_, rfl⟩
            have fx1601 : V1595 (q + 2) = some (.inl (cs 1, 2, .inl (g1598))) := by rw [ge1599]; exact e1596
            have hf1600 := hq_rg hP.1 (hr_2 hR) fx1601
            have b1602 : (g1598 (1 : Int32).toNatClampNeg).toInt = (y1589 : Int32).toInt := congrArg Int32.toInt ((congrFun ge1599 _).trans hm_ue)
            have fx1603 : V1595 (mo) = some (.inr (13, hm_o q (m_tp) (m_sz) (z1565) (z1566) (z1567) (z1546) (z1547) (m_le) (m_fo) (m_as) (m_fd) (m_bc) (m_bg) (m_bs) (m_be) (m_b0) (m_b1) (m_cm) (m_hc))) := (o1597 (mo) (hq_tne h_mo (hr_2 hR) (by simp))).trans (fx1583)
            have fx1604 : V1595 (q + 10) = some (.inl (cs 1, 120, .inl (g1369))) := (o1597 (q + 10) (hq_ne q 10 2 (by decide))).trans ((o1581 (q + 10) (hq_ne q 10 15 (by decide))).trans ((hq1563.2 (q + 10) _ (hr_10 hR) rfl).trans ((hq1540.2 (q + 10) _ (hr_10 hR) rfl).trans (fx1551))))
            have fx1605 : V1595 (q + 14) = some (.inl (cs 1, 120, .inl (g1530))) := (o1597 (q + 14) (hq_ne q 14 2 (by decide))).trans ((o1581 (q + 14) (hq_ne q 14 15 (by decide))).trans ((hq1563.2 (q + 14) _ (hr_14 hR) rfl).trans ((hq1540.2 (q + 14) _ (hr_14 hR) rfl).trans (fx1533))))
            exact hq_vret hx hb hr hlocks hZ ⟨rfl, rfl, hP, ⟨z1565, z1566, z1567, z1546, z1547, fx1603, by assumption, by omega⟩, ⟨(hm_JH.of eV1 eV5 eV9 fx1604 fx1605 fx1601 (fun j hj => (congrFun ge1370 j).trans (hm_ub (by omega) hj)) (fun j hj => ((congrFun ge1531 j).trans (hm_ub (by omega) hj)).trans ((congrFun ge1409 j).trans (hm_ub (by omega) hj))) ((congrFun ge1599 0).trans (hm_un (by decide))) (hq_rg hI (hr_2 hR) eV9 0 (by decide)).2), (hm_JJ.of (l := y1358) eV1 eV5 eV9 fx1604 fx1605 fx1601 (by omega) (by omega) (fun j hj => (congrFun ge1370 j).trans (hm_un hj)) (fun j hj => ((congrFun ge1531 j).trans (hm_un hj)).trans ((congrFun ge1409 j).trans (hm_un hj))) (by rw [show g1598 (1 : Int32).toNatClampNeg = _ from (congrFun ge1599 _).trans hm_ue]; omega) (fun h9 => by rw [show g1369 y1358.toNatClampNeg = 0 from (congrFun ge1370 _).trans hm_ue] at h9; exact absurd h9 (by decide)))⟩⟩ dX13_readLine_400
          · have c1558 : ¬ (z1545).toInt = (3 : Int) := fun h9 => c1558 (hq_eqi.mpr h9)
            refine lv_aload_n hx hb dX13_readLine_344 rfl (lv_at hl 2 rfl) ?_
            refine lv_iconst (v := 1) hx hb dX13_readLine_345 (by decide) ?_
            have hl1615 : (1 : Int32).toInt = 1 := by decide
            refine hp_callq (hp_runV (As := [.int (1)]) (rest := []) hx hb hml hown hts (t_X13_wrong l D cs B G  V1536 n hP.1 q hR (mo) h_mo (1) ho1548  (by omega) (by omega) (by omega) (by omega) (by omega) (by omega) (by omega) (by omega) ) hZ ho1548 cv_X13_107 rfl rfl ⟨Nat.le_of_ble_eq_true rfl, Nat.le_of_ble_eq_true rfl⟩ rfl hl.1 rfl (Nat.le_of_ble_eq_true rfl) dX13_readLine_346 ⟨(Nat.le_of_ble_eq_true rfl), (Nat.le_of_ble_eq_true rfl)⟩) hZ (fun r1609 V1606 n1607 _ _ hw1608 hZ => ?_)
            obtain ⟨rfl, hq1610, ⟨z1612, z1613, ho1614⟩, hr1611⟩ := hw1608
            have hP := hP.trans hq1610 (by intro g h; simp_all)
            have b1616 := hq_rng z1612
            have b1617 := hq_rng z1613
            subst hr1611
            refine W.eq (g2 := F0 m 349 ls [.ref (q + 19)]) rfl ?_
            have fx1618 : V1606 (q + 10) = some (.inl (cs 1, 120, .inl (g1369))) := (hq1610.2 (q + 10) _ (hr_10 hR) rfl).trans ((hq1540.2 (q + 10) _ (hr_10 hR) rfl).trans (fx1551))
            have fx1619 : V1606 (q + 14) = some (.inl (cs 1, 120, .inl (g1530))) := (hq1610.2 (q + 14) _ (hr_14 hR) rfl).trans ((hq1540.2 (q + 14) _ (hr_14 hR) rfl).trans (fx1533))
            have fx1620 : V1606 (q + 2) = some (.inl (cs 1, 2, .inl (g10))) := (hq1610.2 (q + 2) _ (hr_2 hR) rfl).trans ((hq1540.2 (q + 2) _ (hr_2 hR) rfl).trans (fx1552))
            exact hq_athrow hx hb hnx hlocks hZ ⟨rfl, rfl, hP, ⟨z1543, z1544, z1545, z1612, z1613, ho1614, by assumption, by omega⟩, (hm_JH.of eV1 eV5 eV9 fx1618 fx1619 fx1620 (fun j hj => (congrFun ge1370 j).trans (hm_ub (by omega) hj)) (fun j hj => ((congrFun ge1531 j).trans (hm_ub (by omega) hj)).trans ((congrFun ge1409 j).trans (hm_ub (by omega) hj))) rfl (hq_rg hI (hr_2 hR) eV9 0 (by decide)).2)⟩ dX13_readLine_349
        · have c1509 : (y1503).toInt = (2 : Int) := hq_eqi.mp c1509
          refine lv_aload_n hx hb dX13_readLine_300 rfl (lv_at hl 2 rfl) ?_
          refine lv_iconst (v := 5) hx hb dX13_readLine_301 (by decide) ?_
          have hl1630 : (5 : Int32).toInt = 5 := by decide
          refine hp_callq (hp_runV (As := [.int (5)]) (rest := []) hx hb hml hown hts (t_X13_wrong l D cs B G  V1476 n hP.1 q hR (mo) h_mo (5) ho1487  (by omega) (by omega) (by omega) (by omega) (by omega) (by omega) (by omega) (by omega) ) hZ ho1487 cv_X13_107 rfl rfl ⟨Nat.le_of_ble_eq_true rfl, Nat.le_of_ble_eq_true rfl⟩ rfl hl.1 rfl (Nat.le_of_ble_eq_true rfl) dX13_readLine_302 ⟨(Nat.le_of_ble_eq_true rfl), (Nat.le_of_ble_eq_true rfl)⟩) hZ (fun r1624 V1621 n1622 _ _ hw1623 hZ => ?_)
          obtain ⟨rfl, hq1625, ⟨z1627, z1628, ho1629⟩, hr1626⟩ := hw1623
          have hP := hP.trans hq1625 (by intro g h; simp_all)
          have b1631 := hq_rng z1627
          have b1632 := hq_rng z1628
          subst hr1626
          refine W.eq (g2 := F0 m 305 ls [.ref (q + 19)]) rfl ?_
          have fx1633 : V1621 (q + 10) = some (.inl (cs 1, 120, .inl (g1369))) := (hq1625.2 (q + 10) _ (hr_10 hR) rfl).trans ((hq1480.2 (q + 10) _ (hr_10 hR) rfl).trans (fx1490))
          have fx1634 : V1621 (q + 14) = some (.inl (cs 1, 120, .inl (g1408))) := (hq1625.2 (q + 14) _ (hr_14 hR) rfl).trans ((hq1480.2 (q + 14) _ (hr_14 hR) rfl).trans (fx1491))
          have fx1635 : V1621 (q + 2) = some (.inl (cs 1, 2, .inl (g10))) := (hq1625.2 (q + 2) _ (hr_2 hR) rfl).trans ((hq1480.2 (q + 2) _ (hr_2 hR) rfl).trans (fx1492))
          exact hq_athrow hx hb hnx hlocks hZ ⟨rfl, rfl, hP, ⟨z1482, z1483, z1484, z1627, z1628, ho1629, by assumption, by omega⟩, (hm_JH.of eV1 eV5 eV9 fx1633 fx1634 fx1635 (fun j hj => (congrFun ge1370 j).trans (hm_ub (by omega) hj)) (fun j hj => (congrFun ge1409 j).trans (hm_ub (by omega) hj)) rfl (hq_rg hI (hr_2 hR) eV9 0 (by decide)).2)⟩ dX13_readLine_305
      · have c1500 : ¬ (z1484).toInt = (3 : Int) := fun h9 => c1500 (hq_eqi.mpr h9)
        refine lv_aload_n hx hb dX13_readLine_256 rfl (lv_at hl 2 rfl) ?_
        refine lv_iconst (v := 1) hx hb dX13_readLine_257 (by decide) ?_
        have hl1645 : (1 : Int32).toInt = 1 := by decide
        refine hp_callq (hp_runV (As := [.int (1)]) (rest := []) hx hb hml hown hts (t_X13_wrong l D cs B G  V1476 n hP.1 q hR (mo) h_mo (1) ho1487  (by omega) (by omega) (by omega) (by omega) (by omega) (by omega) (by omega) (by omega) ) hZ ho1487 cv_X13_107 rfl rfl ⟨Nat.le_of_ble_eq_true rfl, Nat.le_of_ble_eq_true rfl⟩ rfl hl.1 rfl (Nat.le_of_ble_eq_true rfl) dX13_readLine_258 ⟨(Nat.le_of_ble_eq_true rfl), (Nat.le_of_ble_eq_true rfl)⟩) hZ (fun r1639 V1636 n1637 _ _ hw1638 hZ => ?_)
        obtain ⟨rfl, hq1640, ⟨z1642, z1643, ho1644⟩, hr1641⟩ := hw1638
        have hP := hP.trans hq1640 (by intro g h; simp_all)
        have b1646 := hq_rng z1642
        have b1647 := hq_rng z1643
        subst hr1641
        refine W.eq (g2 := F0 m 261 ls [.ref (q + 19)]) rfl ?_
        have fx1648 : V1636 (q + 10) = some (.inl (cs 1, 120, .inl (g1369))) := (hq1640.2 (q + 10) _ (hr_10 hR) rfl).trans ((hq1480.2 (q + 10) _ (hr_10 hR) rfl).trans (fx1490))
        have fx1649 : V1636 (q + 14) = some (.inl (cs 1, 120, .inl (g1408))) := (hq1640.2 (q + 14) _ (hr_14 hR) rfl).trans ((hq1480.2 (q + 14) _ (hr_14 hR) rfl).trans (fx1491))
        have fx1650 : V1636 (q + 2) = some (.inl (cs 1, 2, .inl (g10))) := (hq1640.2 (q + 2) _ (hr_2 hR) rfl).trans ((hq1480.2 (q + 2) _ (hr_2 hR) rfl).trans (fx1492))
        exact hq_athrow hx hb hnx hlocks hZ ⟨rfl, rfl, hP, ⟨z1482, z1483, z1484, z1642, z1643, ho1644, by assumption, by omega⟩, (hm_JH.of eV1 eV5 eV9 fx1648 fx1649 fx1650 (fun j hj => (congrFun ge1370 j).trans (hm_ub (by omega) hj)) (fun j hj => (congrFun ge1409 j).trans (hm_ub (by omega) hj)) rfl (hq_rg hI (hr_2 hR) eV9 0 (by decide)).2)⟩ dX13_readLine_261
    · have c1353 : (y1349).toInt = (60 : Int) := hq_eqi.mp c1353
      refine lv_aload_n hx hb dX13_readLine_102 rfl (lv_at hl 1 rfl) ?_
      refine lv_iconst (v := 4) hx hb dX13_readLine_103 (by decide) ?_
      have hl1660 : (4 : Int32).toInt = 4 := by decide
      refine hp_callq (hp_runV (As := [.int (4)]) (rest := []) hx hb hml hown hts (t_X13_wrong l D cs B G  V13 n hP.1 q hR (mo) h_mo (4) ho19  (by omega) (by omega) (by omega) (by omega) (by omega) (by omega) (by omega) (by omega) ) hZ ho19 cv_X13_107 rfl rfl ⟨Nat.le_of_ble_eq_true rfl, Nat.le_of_ble_eq_true rfl⟩ rfl hl.1 rfl (Nat.le_of_ble_eq_true rfl) dX13_readLine_104 ⟨(Nat.le_of_ble_eq_true rfl), (Nat.le_of_ble_eq_true rfl)⟩) hZ (fun r1654 V1651 n1652 _ _ hw1653 hZ => ?_)
      obtain ⟨rfl, hq1655, ⟨z1657, z1658, ho1659⟩, hr1656⟩ := hw1653
      have hP := hP.trans hq1655 (by intro g h; simp_all)
      have b1661 := hq_rng z1657
      have b1662 := hq_rng z1658
      subst hr1656
      refine W.eq (g2 := F0 m 107 ls [.ref (q + 19)]) rfl ?_
      have fx1663 : V1651 (q + 10) = some (.inl (cs 1, 120, .inl (g2))) := (hq1655.2 (q + 10) _ (hr_10 hR) rfl).trans ((hq17.2 (q + 10) _ (hr_10 hR) rfl).trans (eV1))
      have fx1664 : V1651 (q + 14) = some (.inl (cs 1, 120, .inl (g6))) := (hq1655.2 (q + 14) _ (hr_14 hR) rfl).trans ((hq17.2 (q + 14) _ (hr_14 hR) rfl).trans (eV5))
      have fx1665 : V1651 (q + 2) = some (.inl (cs 1, 2, .inl (g10))) := (hq1655.2 (q + 2) _ (hr_2 hR) rfl).trans (fx1348)
      exact hq_athrow hx hb hnx hlocks hZ ⟨rfl, rfl, hP, ⟨m_fr, m_bh, m_hd, z1657, z1658, ho1659, by assumption, by omega⟩, (hm_JH.of eV1 eV5 eV9 fx1663 fx1664 fx1665 (fun j hj => rfl) (fun j hj => rfl) rfl (hq_rg hI (hr_2 hR) eV9 0 (by decide)).2)⟩ dX13_readLine_107

set_option maxHeartbeats 4000000 in
set_option maxRecDepth 100000 in
theorem t_X13_readItem (l : Launch) (D : va_G) (cs : Nat → ClassId) (B : Nat) (G : hq_G) (V : hp_V) (n : Nat) (hI : hq_I cs G V) (q : Nat) (hR : hq_RT G q) (mo : Nat) (h_mo : G mo = some (24, 0, 0, 0)) {m_tp m_sz m_fr m_bh m_hd m_ft m_fa m_le m_fo m_as m_fd m_bc m_bg m_bs m_be m_b0 m_b1 m_cm m_hc : Int32} (ho_mo : V mo = some (.inr (13, hm_o q (m_tp) (m_sz) (m_fr) (m_bh) (m_hd) (m_ft) (m_fa) (m_le) (m_fo) (m_as) (m_fd) (m_bc) (m_bg) (m_bs) (m_be) (m_b0) (m_b1) (m_cm) (m_hc)))) (hi_mo0 : 0 ≤ m_tp.toInt ∧ m_tp.toInt ≤ 4000) (hi_mo1 : 0 ≤ m_sz.toInt ∧ m_sz.toInt ≤ 4000) (hi_mo2 : 0 ≤ m_le.toInt ∧ m_le.toInt ≤ 276) (hi_mo3 : 0 ≤ m_fo.toInt ∧ m_fo.toInt ≤ 4) (hi_mo4 : 0 ≤ m_as.toInt ∧ m_as.toInt ≤ 4000) (hi_mo5 : 0 ≤ m_fd.toInt ∧ m_fd.toInt ≤ 900) (hi_mo6 : 0 ≤ m_cm.toInt ∧ m_cm.toInt ≤ 2) (hi_mo7 : 0 ≤ m_hc.toInt ∧ m_hc.toInt ≤ 1) (hi_mo8 : hm_SC m_sz m_fr m_bh m_hd) : hq_M l yX13_readItem cX13_readItem 3 none ({ frames := 11, cells := 0, slots := 0, locals := 234 }) D cs B V n [.ref (mo)] (hq_QX D cs B (fun v V' n' => v = none ∧ n = n' ∧ hq_P cs G (fun g => g.1 == 1 || g.1 == 41 || g.1 == 50) V V' ∧ (∃ (m_fr1 : Int32) (m_bh1 : Int32) (m_hd1 : Int32) (m_ft1 : Int32) (m_fa1 : Int32), V' mo = some (.inr (13, hm_o q (m_tp) (m_sz) (m_fr1) (m_bh1) (m_hd1) (m_ft1) (m_fa1) (m_le) (m_fo) (m_as) (m_fd) (m_bc) (m_bg) (m_bs) (m_be) (m_b0) (m_b1) (m_cm) (m_hc))) ∧ (hm_SC m_sz m_fr1 m_bh1 m_hd1) ∧ (m_bh.toInt ≤ m_bh1.toInt)) ∧ (hm_JH cs V V' q ∧ hm_JJ cs V V' q)) (fun x V' n' => x = q + 19 ∧ n = n' ∧ hq_P cs G (fun g => g.1 == 1 || g.1 == 41 || g.1 == 50) V V' ∧ (∃ (m_fr1 : Int32) (m_bh1 : Int32) (m_hd1 : Int32) (m_ft1 : Int32) (m_fa1 : Int32), V' mo = some (.inr (13, hm_o q (m_tp) (m_sz) (m_fr1) (m_bh1) (m_hd1) (m_ft1) (m_fa1) (m_le) (m_fo) (m_as) (m_fd) (m_bc) (m_bg) (m_bs) (m_be) (m_b0) (m_b1) (m_cm) (m_hc))) ∧ (hm_SC m_sz m_fr1 m_bh1 m_hd1) ∧ (m_bh.toInt ≤ m_bh1.toInt)) ∧ hm_JH cs V V' q)) 0 0 := by
  refine hq_walk (R0 := RX13) (by decide) rfl ?_ (Nat.le_of_ble_eq_true rfl)
  intro p e s m below meth c ls hx hb hr hts hown hlocks hin hml hnx hZ hl
  have hP : hq_P cs G (fun g => g.1 == 1 || g.1 == 41 || g.1 == 50) V V := hq_P.rf hI
  have hl : lv_has ls 3 [(0, .ref (mo))] := hl
  have hb_m_tp := hq_rng m_tp
  have hb_m_sz := hq_rng m_sz
  have hb_m_fr := hq_rng m_fr
  have hb_m_bh := hq_rng m_bh
  have hb_m_hd := hq_rng m_hd
  have hb_m_ft := hq_rng m_ft
  have hb_m_fa := hq_rng m_fa
  have hb_m_le := hq_rng m_le
  have hb_m_fo := hq_rng m_fo
  have hb_m_as := hq_rng m_as
  have hb_m_fd := hq_rng m_fd
  have hb_m_bc := hq_rng m_bc
  have hb_m_bg := hq_rng m_bg
  have hb_m_bs := hq_rng m_bs
  have hb_m_be := hq_rng m_be
  have hb_m_b0 := hq_rng m_b0
  have hb_m_b1 := hq_rng m_b1
  have hb_m_cm := hq_rng m_cm
  have hb_m_hc := hq_rng m_hc
  refine lv_aload_n hx hb dX13_readItem_0 rfl (lv_at hl 0 rfl) ?_
  refine va_ldcS (tx := (hp_so.getD 1 ("", 0, "")).2.2) (q := cs (100 + 1)) hx hb hown (hZ.2.2.2.2.2.2.2.2.2.2 1 (by decide)) dX13_readItem_1 ?_
  refine hp_calli (hp_runV (As := [.ref (cs (100 + 1))]) (rest := []) hx hb hml hown hts (t_X13_is l D cs B G  V n hP.1 q hR (mo) h_mo 1 (by decide) ho_mo  (by omega) (by omega) (by omega) (by omega) (by omega) (by omega) (by omega) (by omega) (by assumption) ) hZ ho_mo cv_X13_103 rfl rfl ⟨Nat.le_of_ble_eq_true rfl, Nat.le_of_ble_eq_true rfl⟩ rfl hl.1 rfl (Nat.le_of_ble_eq_true rfl) dX13_readItem_3 ⟨(Nat.le_of_ble_eq_true rfl), (Nat.le_of_ble_eq_true rfl)⟩) hZ (fun r4 V1 n2 _ _ hw3 hZ => ?_)
  obtain ⟨rfl, hq5, ho7, hr6⟩ := hw3
  have hP := hP.trans hq5 (fun _ _ => rfl)
  have b8 := hq_rng r4
  refine lv_if_eq (tgt := 130) hx hb dX13_readItem_6 (by decide) (fun c9 => ?_) (fun c9 => ?_)
  · have c9 : (r4).toInt = (0 : Int) := hq_eqi.mp c9
    refine lv_aload_n hx hb dX13_readItem_130 rfl (lv_at hl 0 rfl) ?_
    refine va_ldcS (tx := (hp_so.getD 2 ("", 0, "")).2.2) (q := cs (100 + 2)) hx hb hown (hZ.2.2.2.2.2.2.2.2.2.2 2 (by decide)) dX13_readItem_131 ?_
    refine hp_calli (hp_runV (As := [.ref (cs (100 + 2))]) (rest := []) hx hb hml hown hts (t_X13_is l D cs B G  V1 n hP.1 q hR (mo) h_mo 2 (by decide) ho7  (by omega) (by omega) (by omega) (by omega) (by omega) (by omega) (by omega) (by omega) (by assumption) ) hZ ho7 cv_X13_103 rfl rfl ⟨Nat.le_of_ble_eq_true rfl, Nat.le_of_ble_eq_true rfl⟩ rfl hl.1 rfl (Nat.le_of_ble_eq_true rfl) dX13_readItem_133 ⟨(Nat.le_of_ble_eq_true rfl), (Nat.le_of_ble_eq_true rfl)⟩) hZ (fun r13 V10 n11 _ _ hw12 hZ => ?_)
    obtain ⟨rfl, hq14, ho16, hr15⟩ := hw12
    have hP := hP.trans hq14 (fun _ _ => rfl)
    have b17 := hq_rng r13
    refine lv_if_eq (tgt := 276) hx hb dX13_readItem_136 (by decide) (fun c18 => ?_) (fun c18 => ?_)
    · have c18 : (r13).toInt = (0 : Int) := hq_eqi.mp c18
      refine lv_aload_n hx hb dX13_readItem_276 rfl (lv_at hl 0 rfl) ?_
      refine hq_callx (hq_runV (As := []) (rest := []) hx hb hml hown hts (t_X13_readLine l D cs B G  V10 n hP.1 q hR (mo) h_mo ho16  (by omega) (by omega) (by omega) (by omega) (by omega) (by omega) (by omega) (by omega) (by assumption) ) hZ ho16 cv_X13_179 rfl rfl ⟨Nat.le_of_ble_eq_true rfl, Nat.le_of_ble_eq_true rfl⟩ rfl hl.1 rfl (Nat.le_of_ble_eq_true rfl) dX13_readItem_277 ⟨(Nat.le_of_ble_eq_true rfl), (Nat.le_of_ble_eq_true rfl)⟩) hZ hnx hlocks (by rintro x9 V9 n9 ⟨rfl, rfl, hq9, ⟨z25x, z26x, z27x, z28x, z29x, hox0, hix00, hix01⟩, hxp⟩; have hbxz25 := hq_rng z25x; have hbxz26 := hq_rng z26x; have hbxz27 := hq_rng z27x; have hbxz28 := hq_rng z28x; have hbxz29 := hq_rng z29x; exact ⟨rfl, rfl, hP.trans hq9 (by intro g h; simp_all), ⟨z25x, z26x, z27x, z28x, z29x, hox0, by assumption, by omega⟩, (fun h0 => hxp (h0.keep hR (fun y9 t9 hy9 hg9 => (hq14.2 y9 _ hy9 rfl).trans (hq5.2 y9 _ hy9 rfl))))⟩) (fun v9 V19 n20 _ _ hw21 hZ => ?_)
      obtain ⟨rfl, rfl, hq23, ⟨z25, z26, z27, z28, z29, ho30, hi31, hi32⟩, hr24⟩ := hw21
      refine W.eq (g2 := F0 m 280 ls []) rfl ?_
      have hP := hP.trans hq23 (by intro g h; simp_all)
      have b33 := hq_rng z25
      have b34 := hq_rng z26
      have b35 := hq_rng z27
      have b36 := hq_rng z28
      have b37 := hq_rng z29
      exact hq_vret hx hb hr hlocks hZ ⟨rfl, rfl, hP, ⟨z25, z26, z27, z28, z29, ho30, by assumption, by omega⟩, ⟨fun h0 => hr24.1 (h0.keep hR (fun y9 t9 hy9 hg9 => (hq14.2 y9 _ hy9 rfl).trans (hq5.2 y9 _ hy9 rfl))), fun h0 => hr24.2 (h0.keep hR (fun y9 t9 hy9 hg9 => (hq14.2 y9 _ hy9 rfl).trans (hq5.2 y9 _ hy9 rfl)))⟩⟩ dX13_readItem_280
    · have c18 : ¬ (r13).toInt = (0 : Int) := fun h9 => c18 (hq_eqi.mpr h9)
      refine lv_aload_n hx hb dX13_readItem_139 rfl (lv_at hl 0 rfl) ?_
      refine hp_get (v := .ref (q + 1)) hx hb hts hown hZ ho16 fl_X13_7 rfl dX13_readItem_140 ?_
      refine lv_iconst (v := 1) hx hb dX13_readItem_143 (by decide) ?_
      obtain ⟨hN40, g39, eV38, hf41⟩ := hq_o21 hP.1 (hr_1 hR)
      refine hp_iald hx hb hZ eV38 (by unfold vp_in; decide) dX13_readItem_144 ?_
      refine lv_topi (fun y42 ey43 => ?_)
      have b45 : (y42).toInt = ((g39) (1 : Int32).toNatClampNeg).toInt := by rw [ey43]
      have b44 : hq_ir (hq_lo 9) (hq_hi 9) y42 := by rw [ey43]; exact hf41 _ (by decide)
      have b44 : 0 ≤ (y42).toInt ∧ (y42).toInt ≤ 30 := b44
      refine lv_bipush (v := 30) hx hb dX13_readItem_145 (by decide) ?_
      refine lv_icmp_ne (tgt := 156) hx hb dX13_readItem_147 (by decide) (fun c46 => ?_) (fun c46 => ?_)
      · have c46 : ¬ (y42).toInt = (30 : Int) := fun h9 => c46 (hq_eqi.mpr h9)
        refine lv_aload_n hx hb dX13_readItem_156 rfl (lv_at hl 0 rfl) ?_
        refine hp_callv (hp_runV (As := []) (rest := []) hx hb hml hown hts (t_X13_scan l D cs B G  V10 n hP.1 q hR (mo) h_mo ho16  (by omega) (by omega) (by omega) (by omega) (by omega) (by omega) (by omega) (by omega) (hm_SC.s0 (by assumption)) (hm_SC.s1 (by assumption) (by first | omega | (have h8 := hm_Is.hd (by assumption) (by omega); omega)))) hZ ho16 cv_X13_111 rfl rfl ⟨Nat.le_of_ble_eq_true rfl, Nat.le_of_ble_eq_true rfl⟩ rfl hl.1 rfl (Nat.le_of_ble_eq_true rfl) dX13_readItem_157 ⟨(Nat.le_of_ble_eq_true rfl), (Nat.le_of_ble_eq_true rfl)⟩) hZ (fun V47 n48 _ _ hw49 hZ => ?_)
        obtain ⟨rfl, hq51, ⟨z53, z54, z55, ho56, hi57, hi58, hi59⟩⟩ := hw49
        have hP := hP.trans hq51 (by intro g h; simp_all)
        have b60 := hq_rng z53
        have b61 := hq_rng z54
        have b62 := hq_rng z55
        refine lv_aload_n hx hb dX13_readItem_160 rfl (lv_at hl 0 rfl) ?_
        refine hq_callx (hq_runV (As := []) (rest := []) hx hb hml hown hts (t_X13_needName l D cs B G  V47 n hP.1 q hR (mo) h_mo ho56  (by omega) (by omega) (by omega) (by omega) (by omega) (by omega) (by omega) (by omega) (by assumption) ) hZ ho56 cv_X13_160 rfl rfl ⟨Nat.le_of_ble_eq_true rfl, Nat.le_of_ble_eq_true rfl⟩ rfl hl.1 rfl (Nat.le_of_ble_eq_true rfl) dX13_readItem_161 ⟨(Nat.le_of_ble_eq_true rfl), (Nat.le_of_ble_eq_true rfl)⟩) hZ hnx hlocks (by rintro x9 V9 n9 ⟨rfl, rfl, hq9, ⟨z69x, z70x, hox0⟩⟩; have hbxz69 := hq_rng z69x; have hbxz70 := hq_rng z70x; exact ⟨rfl, rfl, hP.trans hq9 (by intro g h; simp_all), ⟨z53, z54, z55, z69x, z70x, hox0, by assumption, by omega⟩, (hm_E.jh (fun y9 t9 hy9 hg9 => (hq51.2 y9 _ hy9 (by simp [hg9])).trans ((hq14.2 y9 _ hy9 rfl).trans (hq5.2 y9 _ hy9 rfl))) hR).keep hR (fun x t hx hg => hq9.2 x t hx (by simp [hg]))⟩) (fun v9 V63 n64 _ _ hw65 hZ => ?_)
        obtain ⟨rfl, rfl, hq67, ⟨z69, z70, ho71⟩, hr68⟩ := hw65
        refine W.eq (g2 := F0 m 164 ls []) rfl ?_
        have hP := hP.trans hq67 (by intro g h; simp_all)
        have b72 := hq_rng z69
        have b73 := hq_rng z70
        have ha1 := hm_SC.a1 (by assumption : hm_SC m_sz z53 z54 z55) (by omega)
        refine lv_aload_n hx hb dX13_readItem_164 rfl (lv_at hl 0 rfl) ?_
        refine hp_calli (hp_runV (As := []) (rest := []) hx hb hml hown hts (t_X13_verbAtHand l D cs B G  V63 n hP.1 q hR (mo) h_mo ho71  (by omega) (by omega) (by omega) (by omega) (by omega) (by omega) (by omega) (by omega) (by assumption) (by omega)) hZ ho71 cv_X13_166 rfl rfl ⟨Nat.le_of_ble_eq_true rfl, Nat.le_of_ble_eq_true rfl⟩ rfl hl.1 rfl (Nat.le_of_ble_eq_true rfl) dX13_readItem_165 ⟨(Nat.le_of_ble_eq_true rfl), (Nat.le_of_ble_eq_true rfl)⟩) hZ (fun r77 V74 n75 _ _ hw76 hZ => ?_)
        obtain ⟨rfl, hq78, ho80, hr79⟩ := hw76
        have hP := hP.trans hq78 (fun _ _ => rfl)
        have b81 := hq_rng r77
        refine lv_iconst (v := -1) hx hb dX13_readItem_168 (by decide) ?_
        refine lv_icmp_eq (tgt := 178) hx hb dX13_readItem_169 (by decide) (fun c82 => ?_) (fun c82 => ?_)
        · have c82 : (r77).toInt = (-1 : Int) := hq_eqi.mp c82
          refine lv_bipush (v := 30) hx hb dX13_readItem_178 (by decide) ?_
          refine lv_aload_n hx hb dX13_readItem_180 rfl (lv_at hl 0 rfl) ?_
          refine hp_get (v := .ref (q + 1)) hx hb hts hown hZ ho80 fl_X13_7 rfl dX13_readItem_181 ?_
          refine lv_iconst (v := 1) hx hb dX13_readItem_184 (by decide) ?_
          have fx83 : V74 (q + 1) = some (.inl (cs 1, 2, .inl (g39))) := (hq78.2 (q + 1) _ (hr_1 hR) rfl).trans ((hq67.2 (q + 1) _ (hr_1 hR) rfl).trans ((hq51.2 (q + 1) _ (hr_1 hR) rfl).trans (eV38)))
          refine hp_iald hx hb hZ fx83 (by unfold vp_in; decide) dX13_readItem_185 ?_
          refine lv_topi (fun y84 ey85 => ?_)
          have b87 : (y84).toInt = ((g39) (1 : Int32).toNatClampNeg).toInt := by rw [ey85]
          have b86 : hq_ir (hq_lo 9) (hq_hi 9) y84 := by rw [ey85]; exact hf41 _ (by decide)
          have b86 : 0 ≤ (y84).toInt ∧ (y84).toInt ≤ 30 := b86
          refine lv_iadd hx hb dX13_readItem_186 ?_
          refine lv_topi (fun y88 ey89 => ?_)
          obtain ⟨k90, hk91, b92, b93⟩ := hq_add (30) (y84)
          rw [← ey89] at hk91 b92 b93
          have hk91 : (y88).toInt = (30 : Int) + (y84).toInt + k90 * 4294967296 := hk91
          obtain rfl : k90 = 0 := by omega
          refine lv_istore_n (lv' := [(1, .int (y88)), (0, .ref (mo))]) hx hb dX13_readItem_187 rfl hl (by decide) rfl (fun ls hl => ?_)
          refine lv_aload_n hx hb dX13_readItem_188 rfl (lv_at hl 1 rfl) ?_
          refine hp_get (v := .ref (q + 8)) hx hb hts hown hZ ho80 fl_X13_13 rfl dX13_readItem_189 ?_
          refine lv_iload_n hx hb dX13_readItem_192 rfl (lv_at hl 0 rfl) ?_
          refine lv_aload_n hx hb dX13_readItem_193 rfl (lv_at hl 1 rfl) ?_
          refine hp_get (v := .int (z54)) hx hb hts hown hZ ho80 fl_X13_76 rfl dX13_readItem_194 ?_
          refine lv_aload_n hx hb dX13_readItem_197 rfl (lv_at hl 1 rfl) ?_
          refine hp_get (v := .int (z53)) hx hb hts hown hZ ho80 fl_X13_60 rfl dX13_readItem_198 ?_
          refine lv_isub hx hb dX13_readItem_201 ?_
          refine lv_topi (fun y94 ey95 => ?_)
          obtain ⟨k96, hk97, b98, b99⟩ := hq_sub (z54) (z53)
          rw [← ey95] at hk97 b98 b99
          have hk97 : (y94).toInt = (z54).toInt - (z53).toInt + k96 * 4294967296 := hk97
          obtain rfl : k96 = 0 := by omega
          obtain ⟨hN102, g101, eV100, hf103⟩ := hq_o21 hP.1 (hr_8 hR)
          refine hp_iast hx hb hZ eV100 (hq_in (by omega) (by omega)) dX13_readItem_202 (fun V104 _ _ e105 o106 hZ => ?_)
          have e105 : V104 (q + 8) = some (.inl (cs 1, 60, .inl (upd (g101) ((y88 : Int32).toNatClampNeg) (y94)))) := e105
          have hP := hP.put (hr_8 hR) e105 o106 (hq_c21 (by omega) (hq_upd hf103 (show 0 ≤ _ ∧ _ ≤ 12 by constructor <;> omega))) rfl
          obtain ⟨g107, ge108⟩ : ∃ g9 : Nat → Int32, g9 = upd (g101) ((y88 : Int32).toNatClampNeg) (y94) := ⟨_, rfl⟩
          have fx110 : V104 (q + 8) = some (.inl (cs 1, 60, .inl (g107))) := by rw [ge108]; exact e105
          have hf109 := hq_rg hP.1 (hr_8 hR) fx110
          have b111 : (g107 (y88 : Int32).toNatClampNeg).toInt = (y94 : Int32).toInt := congrArg Int32.toInt ((congrFun ge108 _).trans hm_ue)
          refine lv_iconst (v := 0) hx hb dX13_readItem_203 (by decide) ?_
          refine lv_istore_n (lv' := [(2, .int (0)), (1, .int (y88)), (0, .ref (mo))]) hx hb dX13_readItem_204 rfl hl (by decide) rfl (fun ls hl => ?_)
          have hl112 : (0 : Int32).toInt = 0 := by decide
          have fx114 : V104 (q + 1) = some (.inl (cs 1, 2, .inl (g39))) := (o106 (q + 1) (hq_ne q 1 8 (by decide))).trans (fx83)
          have fx116 : V104 (mo) = some (.inr (13, hm_o q (m_tp) (m_sz) (z53) (z54) (z55) (z69) (z70) (m_le) (m_fo) (m_as) (m_fd) (m_bc) (m_bg) (m_bs) (m_be) (m_b0) (m_b1) (m_cm) (m_hc))) := (o106 (mo) (hq_tne h_mo (hr_8 hR) (by simp))).trans (ho80)
          suffices lp205 : ∀ (k9 : Nat) (V9 : hp_V) (H9 : Heap) (locs9 : List Loc) (ls : Array Slot) (i : Int32), (200 - i.toInt).toNat = k9 → hp_Z D cs B s V9 H9 n locs9 → hq_P cs G (fun g => g.1 == 1 || g.1 == 41 || g.1 == 50) V V9 → V9 (q + 8) = some (.inl (cs 1, 60, .inl (g107))) → V9 (q + 1) = some (.inl (cs 1, 2, .inl (g39))) → V9 (mo) = some (.inr (13, hm_o q (m_tp) (m_sz) (z53) (z54) (z55) (z69) (z70) (m_le) (m_fo) (m_as) (m_fd) (m_bc) (m_bg) (m_bs) (m_be) (m_b0) (m_b1) (m_cm) (m_hc))) → 0 ≤ i.toInt → i.toInt ≤ 100 → hm_E G V V9 → lv_has ls 3 [(2, .int (i)), (1, .int (y88)), (0, .ref (mo))] → W p l e ({ frames := 11, cells := 0, slots := 0, locals := 234 }) s m ([.ref (mo)] : List Value).toArray below meth c H9 locs9 0 0 (hq_MQ below (hq_QX D cs B (fun v V' n' => v = none ∧ n = n' ∧ hq_P cs G (fun g => g.1 == 1 || g.1 == 41 || g.1 == 50) V V' ∧ (∃ (m_fr1 : Int32) (m_bh1 : Int32) (m_hd1 : Int32) (m_ft1 : Int32) (m_fa1 : Int32), V' mo = some (.inr (13, hm_o q (m_tp) (m_sz) (m_fr1) (m_bh1) (m_hd1) (m_ft1) (m_fa1) (m_le) (m_fo) (m_as) (m_fd) (m_bc) (m_bg) (m_bs) (m_be) (m_b0) (m_b1) (m_cm) (m_hc))) ∧ (hm_SC m_sz m_fr1 m_bh1 m_hd1) ∧ (m_bh.toInt ≤ m_bh1.toInt)) ∧ (hm_JH cs V V' q ∧ hm_JJ cs V V' q)) (fun x V' n' => x = q + 19 ∧ n = n' ∧ hq_P cs G (fun g => g.1 == 1 || g.1 == 41 || g.1 == 50) V V' ∧ (∃ (m_fr1 : Int32) (m_bh1 : Int32) (m_hd1 : Int32) (m_ft1 : Int32) (m_fa1 : Int32), V' mo = some (.inr (13, hm_o q (m_tp) (m_sz) (m_fr1) (m_bh1) (m_hd1) (m_ft1) (m_fa1) (m_le) (m_fo) (m_as) (m_fd) (m_bc) (m_bg) (m_bs) (m_be) (m_b0) (m_b1) (m_cm) (m_hc))) ∧ (hm_SC m_sz m_fr1 m_bh1 m_hd1) ∧ (m_bh.toInt ≤ m_bh1.toInt)) ∧ hm_JH cs V V' q)) ([.ref (mo)] : List Value).toArray s 0 0 (hp_F B)) (F0 m 205 ls []) from lp205 _ _ _ _ ls (0) rfl hZ hP fx110 fx114 fx116 (by omega) (by omega) (fun y9 t9 hy9 hg9 => (o106 y9 (hq_gne hy9 (hr_8 hR) hg9 (by decide))).trans ((hq78.2 y9 _ hy9 rfl).trans ((hq67.2 y9 _ hy9 (by simp [hg9])).trans ((hq51.2 y9 _ hy9 (by simp [hg9])).trans ((hq14.2 y9 _ hy9 rfl).trans (hq5.2 y9 _ hy9 rfl)))))) (lv_sub hl [0, 1, 2] rfl)
          intro k9
          induction k9 using Nat.strongRecOn with
          | _ k9 ih205 =>
            intro V9 H9 locs9 ls i  hk205 hZ hP ho113 ho115 ho117 hv118 hv119 he205 hl
            have hb_i := hq_rng i
            have hP_205 := hP
            have hf120 := hq_rg hP.1 (hr_8 hR) ho113
            have hf121 := hq_rg hP.1 (hr_1 hR) ho115
            refine lv_iload_n hx hb dX13_readItem_205 rfl (lv_at hl 0 rfl) ?_
            refine lv_aload_n hx hb dX13_readItem_206 rfl (lv_at hl 2 rfl) ?_
            refine hp_get (v := .ref (q + 8)) hx hb hts hown hZ ho117 fl_X13_13 rfl dX13_readItem_207 ?_
            refine lv_iload_n hx hb dX13_readItem_210 rfl (lv_at hl 1 rfl) ?_
            refine hp_iald hx hb hZ ho113 (hq_in (by omega) (by omega)) dX13_readItem_211 ?_
            refine lv_topi (fun y122 ey123 => ?_)
            have b125 : (y122).toInt = ((g107) (y88 : Int32).toNatClampNeg).toInt := by rw [ey123]
            have b124 : hq_ir (hq_lo 2) (hq_hi 2) y122 := by rw [ey123]; exact hf120 _ (hq_ix (by omega) (by omega))
            have b124 : 0 ≤ (y122).toInt ∧ (y122).toInt ≤ 12 := b124
            refine lv_icmp_ge (tgt := 243) hx hb dX13_readItem_212 (by decide) (fun c126 => ?_) (fun c126 => ?_)
            · have c126 : (y122).toInt ≤ (i).toInt := hq_lei.mp c126
              refine lv_aload_n hx hb dX13_readItem_243 rfl (lv_at hl 2 rfl) ?_
              refine hp_callv (hp_runV (As := []) (rest := []) hx hb hml hown hts (t_X13_scan l D cs B G  V9 n hP.1 q hR (mo) h_mo ho117  (by omega) (by omega) (by omega) (by omega) (by omega) (by omega) (by omega) (by omega) (hm_SC.s0 (by assumption)) (hm_SC.s1 (by assumption) (by first | omega | (have h8 := hm_Is.hd (by assumption) (by omega); omega)))) hZ ho117 cv_X13_111 rfl rfl ⟨Nat.le_of_ble_eq_true rfl, Nat.le_of_ble_eq_true rfl⟩ rfl hl.1 rfl (Nat.le_of_ble_eq_true rfl) dX13_readItem_244 ⟨(Nat.le_of_ble_eq_true rfl), (Nat.le_of_ble_eq_true rfl)⟩) hZ (fun V127 n128 _ _ hw129 hZ => ?_)
              obtain ⟨rfl, hq131, ⟨z133, z134, z135, ho136, hi137, hi138, hi139⟩⟩ := hw129
              have hP := hP.trans hq131 (by intro g h; simp_all)
              have b140 := hq_rng z133
              have b141 := hq_rng z134
              have b142 := hq_rng z135
              refine lv_aload_n hx hb dX13_readItem_247 rfl (lv_at hl 2 rfl) ?_
              refine va_ldcS (tx := (hp_so.getD 3 ("", 0, "")).2.2) (q := cs (100 + 3)) hx hb hown (hZ.2.2.2.2.2.2.2.2.2.2 3 (by decide)) dX13_readItem_248 ?_
              refine hq_callx (hq_runV (As := [.ref (cs (100 + 3))]) (rest := []) hx hb hml hown hts (t_X13_need l D cs B G  V127 n hP.1 q hR (mo) h_mo 3 (by decide) ho136  (by omega) (by omega) (by omega) (by omega) (by omega) (by omega) (by omega) (by omega) (by assumption) ) hZ ho136 cv_X13_172 rfl rfl ⟨Nat.le_of_ble_eq_true rfl, Nat.le_of_ble_eq_true rfl⟩ rfl hl.1 rfl (Nat.le_of_ble_eq_true rfl) dX13_readItem_250 ⟨(Nat.le_of_ble_eq_true rfl), (Nat.le_of_ble_eq_true rfl)⟩) hZ hnx hlocks (by rintro x9 V9 n9 ⟨rfl, rfl, hq9, ⟨z149x, z150x, z151x, z152x, z153x, hox0, hix00, hix01⟩⟩; have hbxz149 := hq_rng z149x; have hbxz150 := hq_rng z150x; have hbxz151 := hq_rng z151x; have hbxz152 := hq_rng z152x; have hbxz153 := hq_rng z153x; exact ⟨rfl, rfl, hP.trans hq9 (by intro g h; simp_all), ⟨z149x, z150x, z151x, z152x, z153x, hox0, by assumption, by omega⟩, (hm_E.jh (fun y9 t9 hy9 hg9 => (hq131.2 y9 _ hy9 (by simp [hg9])).trans (he205 y9 _ hy9 hg9)) hR).keep hR (fun x t hx hg => hq9.2 x t hx (by simp [hg]))⟩) (fun v9 V143 n144 _ _ hw145 hZ => ?_)
              obtain ⟨rfl, rfl, hq147, ⟨z149, z150, z151, z152, z153, ho154, hi155, hi156⟩⟩ := hw145
              refine W.eq (g2 := F0 m 253 ls []) rfl ?_
              have hP := hP.trans hq147 (by intro g h; simp_all)
              have b157 := hq_rng z149
              have b158 := hq_rng z150
              have b159 := hq_rng z151
              have b160 := hq_rng z152
              have b161 := hq_rng z153
              refine lv_aload_n hx hb dX13_readItem_253 rfl (lv_at hl 2 rfl) ?_
              refine hp_get (v := .ref (q + 9)) hx hb hts hown hZ ho154 fl_X13_16 rfl dX13_readItem_254 ?_
              refine lv_iload_n hx hb dX13_readItem_257 rfl (lv_at hl 1 rfl) ?_
              refine lv_aload_n hx hb dX13_readItem_258 rfl (lv_at hl 2 rfl) ?_
              refine hq_callx (hq_runV (As := []) (rest := [.int (y88), .ref (q + 9)]) hx hb hml hown hts (t_X13_takeClass l D cs B G  V143 n hP.1 q hR (mo) h_mo ho154  (by omega) (by omega) (by omega) (by omega) (by omega) (by omega) (by omega) (by omega) (by assumption) ) hZ ho154 cv_X13_176 rfl rfl ⟨Nat.le_of_ble_eq_true rfl, Nat.le_of_ble_eq_true rfl⟩ rfl hl.1 rfl (Nat.le_of_ble_eq_true rfl) dX13_readItem_259 ⟨(Nat.le_of_ble_eq_true rfl), (Nat.le_of_ble_eq_true rfl)⟩) hZ hnx hlocks (by rintro x9 V9 n9 ⟨rfl, rfl, hq9, ⟨z168x, z169x, z170x, z171x, z172x, hox0, hix00, hix01⟩⟩; have hbxz168 := hq_rng z168x; have hbxz169 := hq_rng z169x; have hbxz170 := hq_rng z170x; have hbxz171 := hq_rng z171x; have hbxz172 := hq_rng z172x; exact ⟨rfl, rfl, hP.trans hq9 (by intro g h; simp_all), ⟨z168x, z169x, z170x, z171x, z172x, hox0, by assumption, by omega⟩, (hm_E.jh (fun y9 t9 hy9 hg9 => (hq147.2 y9 _ hy9 (by simp [hg9])).trans ((hq131.2 y9 _ hy9 (by simp [hg9])).trans (he205 y9 _ hy9 hg9))) hR).keep hR (fun x t hx hg => hq9.2 x t hx (by simp [hg]))⟩) (fun v9 V162 n163 _ _ hw164 hZ => ?_)
              obtain ⟨r165, rfl, rfl, hq166, ⟨z168, z169, z170, z171, z172, ho173, hi174, hi175⟩, hr167⟩ := hw164
              refine W.eq (g2 := F0 m 262 ls [.int (r165), .int (y88), .ref (q + 9)]) rfl ?_
              have hP := hP.trans hq166 (by intro g h; simp_all)
              have b176 := hq_rng z168
              have b177 := hq_rng z169
              have b178 := hq_rng z170
              have b179 := hq_rng z171
              have b180 := hq_rng z172
              have b181 := hq_rng r165
              obtain ⟨hN184, g183, eV182, hf185⟩ := hq_o21 hP.1 (hr_9 hR)
              refine hp_iast hx hb hZ eV182 (hq_in (by omega) (by omega)) dX13_readItem_262 (fun V186 _ _ e187 o188 hZ => ?_)
              have e187 : V186 (q + 9) = some (.inl (cs 1, 60, .inl (upd (g183) ((y88 : Int32).toNatClampNeg) (r165)))) := e187
              have hP := hP.put (hr_9 hR) e187 o188 (hq_c21 (by omega) (hq_upd hf185 (hq_rng _))) rfl
              refine lv_aload_n hx hb dX13_readItem_263 rfl (lv_at hl 2 rfl) ?_
              have fx189 : V186 (mo) = some (.inr (13, hm_o q (m_tp) (m_sz) (z168) (z169) (z170) (z171) (z172) (m_le) (m_fo) (m_as) (m_fd) (m_bc) (m_bg) (m_bs) (m_be) (m_b0) (m_b1) (m_cm) (m_hc))) := (o188 (mo) (hq_tne h_mo (hr_9 hR) (by simp))).trans (ho173)
              refine hp_get (v := .ref (q + 1)) hx hb hts hown hZ fx189 fl_X13_7 rfl dX13_readItem_264 ?_
              refine lv_iconst (v := 1) hx hb dX13_readItem_267 (by decide) ?_
              refine lv_dup2_11 hx hb dX13_readItem_268 rfl rfl ?_
              have fx190 : V186 (q + 1) = some (.inl (cs 1, 2, .inl (g39))) := (o188 (q + 1) (hq_ne q 1 9 (by decide))).trans ((hq166.2 (q + 1) _ (hr_1 hR) rfl).trans ((hq147.2 (q + 1) _ (hr_1 hR) rfl).trans ((hq131.2 (q + 1) _ (hr_1 hR) rfl).trans (ho115))))
              refine hp_iald hx hb hZ fx190 (by unfold vp_in; decide) dX13_readItem_269 ?_
              refine lv_topi (fun y191 ey192 => ?_)
              have b194 : (y191).toInt = ((g39) (1 : Int32).toNatClampNeg).toInt := by rw [ey192]
              have b193 : hq_ir (hq_lo 9) (hq_hi 9) y191 := by rw [ey192]; exact hf121 _ (by decide)
              have b193 : 0 ≤ (y191).toInt ∧ (y191).toInt ≤ 30 := b193
              refine lv_iconst (v := 1) hx hb dX13_readItem_270 (by decide) ?_
              refine lv_iadd hx hb dX13_readItem_271 ?_
              refine lv_topi (fun y195 ey196 => ?_)
              obtain ⟨k197, hk198, b199, b200⟩ := hq_add (y191) (1)
              rw [← ey196] at hk198 b199 b200
              have hk198 : (y195).toInt = (y191).toInt + (1 : Int) + k197 * 4294967296 := hk198
              obtain rfl : k197 = 0 := by omega
              refine hp_iast hx hb hZ fx190 (by unfold vp_in; decide) dX13_readItem_272 (fun V201 _ _ e202 o203 hZ => ?_)
              have e202 : V201 (q + 1) = some (.inl (cs 1, 2, .inl (upd (g39) ((1 : Int32).toNatClampNeg) (y195)))) := e202
              have hP := hP.put (hr_1 hR) e202 o203 (hq_c21 (by omega) (hq_upd hf121 (show 0 ≤ _ ∧ _ ≤ 30 by constructor <;> omega))) rfl
              refine lv_goto (tgt := 280) hx hb dX13_readItem_273 (by decide) ?_
              have fx204 : V201 (mo) = some (.inr (13, hm_o q (m_tp) (m_sz) (z168) (z169) (z170) (z171) (z172) (m_le) (m_fo) (m_as) (m_fd) (m_bc) (m_bg) (m_bs) (m_be) (m_b0) (m_b1) (m_cm) (m_hc))) := (o203 (mo) (hq_tne h_mo (hr_1 hR) (by simp))).trans (fx189)
              exact hq_vret hx hb hr hlocks hZ ⟨rfl, rfl, hP, ⟨z168, z169, z170, z171, z172, fx204, by assumption, by omega⟩, ⟨hm_E.jh (fun y9 t9 hy9 hg9 => (o203 y9 (hq_gne hy9 (hr_1 hR) hg9 (by decide))).trans ((o188 y9 (hq_gne hy9 (hr_9 hR) hg9 (by decide))).trans ((hq166.2 y9 _ hy9 (by simp [hg9])).trans ((hq147.2 y9 _ hy9 (by simp [hg9])).trans ((hq131.2 y9 _ hy9 (by simp [hg9])).trans (he205 y9 _ hy9 hg9)))))) hR, hm_E.jj (fun y9 t9 hy9 hg9 => (o203 y9 (hq_gne hy9 (hr_1 hR) hg9 (by decide))).trans ((o188 y9 (hq_gne hy9 (hr_9 hR) hg9 (by decide))).trans ((hq166.2 y9 _ hy9 (by simp [hg9])).trans ((hq147.2 y9 _ hy9 (by simp [hg9])).trans ((hq131.2 y9 _ hy9 (by simp [hg9])).trans (he205 y9 _ hy9 hg9)))))) hR⟩⟩ dX13_readItem_280
            · have c126 : ¬ (y122).toInt ≤ (i).toInt := fun h9 => c126 (hq_lei.mpr h9)
              refine lv_aload_n hx hb dX13_readItem_215 rfl (lv_at hl 2 rfl) ?_
              refine hp_get (v := .ref (q + 4)) hx hb hts hown hZ ho117 fl_X13_19 rfl dX13_readItem_216 ?_
              refine lv_bipush (v := 12) hx hb dX13_readItem_219 (by decide) ?_
              refine lv_iload_n hx hb dX13_readItem_221 rfl (lv_at hl 1 rfl) ?_
              refine lv_imul hx hb dX13_readItem_222 ?_
              refine lv_topi (fun y205 ey206 => ?_)
              obtain ⟨k207, hk208, b209, b210⟩ := hq_mul (12) (y88)
              rw [← ey206] at hk208 b209 b210
              have hk208 : (y205).toInt = (12 : Int) * (y88).toInt + k207 * 4294967296 := hk208
              obtain rfl : k207 = 0 := by omega
              refine lv_iload_n hx hb dX13_readItem_223 rfl (lv_at hl 0 rfl) ?_
              refine lv_iadd hx hb dX13_readItem_224 ?_
              refine lv_topi (fun y211 ey212 => ?_)
              obtain ⟨k213, hk214, b215, b216⟩ := hq_add (y205) (i)
              rw [← ey212] at hk214 b215 b216
              have hk214 : (y211).toInt = (y205).toInt + (i).toInt + k213 * 4294967296 := hk214
              obtain rfl : k213 = 0 := by omega
              refine lv_aload_n hx hb dX13_readItem_225 rfl (lv_at hl 2 rfl) ?_
              refine hp_get (v := .ref (q + 20)) hx hb hts hown hZ ho117 fl_X13_73 rfl dX13_readItem_226 ?_
              refine lv_aload_n hx hb dX13_readItem_229 rfl (lv_at hl 2 rfl) ?_
              refine hp_get (v := .int (z53)) hx hb hts hown hZ ho117 fl_X13_60 rfl dX13_readItem_230 ?_
              refine lv_iload_n hx hb dX13_readItem_233 rfl (lv_at hl 0 rfl) ?_
              refine lv_iadd hx hb dX13_readItem_234 ?_
              refine lv_topi (fun y217 ey218 => ?_)
              obtain ⟨k219, hk220, b221, b222⟩ := hq_add (z53) (i)
              rw [← ey218] at hk220 b221 b222
              have hk220 : (y217).toInt = (z53).toInt + (i).toInt + k219 * 4294967296 := hk220
              obtain rfl : k219 = 0 := by omega
              obtain ⟨hN225, g224, eV223⟩ := hq_o20 hP.1 (hr_20 hR)
              refine hp_bald hx hb hZ eV223 (hq_in (by omega) (by omega)) dX13_readItem_235 ?_
              refine lv_topi (fun y227 ey228 => ?_)
              have b230 : (y227).toInt = ((g224) (y217 : Int32).toNatClampNeg).toInt := by rw [ey228]
              have b229 := hq_rng y227
              obtain ⟨hN233, g232, eV231⟩ := hq_o20 hP.1 (hr_4 hR)
              refine hp_bast hx hb hZ eV231 (hq_in (by omega) (by omega)) dX13_readItem_236 (fun V235 _ _ e236 o237 hZ => ?_)
              have e236 : V235 (q + 4) = some (.inl (cs 0, 720, .inl (upd (g232) ((y211 : Int32).toNatClampNeg) ((y227 : Int32).toInt8.toInt32)))) := e236
              have hP := hP.put (hr_4 hR) e236 o237 (hq_c20 (by omega)) rfl
              obtain ⟨y238, ey239⟩ : ∃ y : Int32, y = i + (1) := ⟨_, rfl⟩
              obtain ⟨k240, hk241, b242, b243⟩ := hq_add (i) (1)
              rw [← ey239] at hk241 b242 b243
              have hk241 : (y238).toInt = (i).toInt + (1) + k240 * 4294967296 := hk241
              refine lv_iinc (v := y238) (lv' := [(2, .int (y238)), (1, .int (y88)), (0, .ref (mo))]) hx hb dX13_readItem_237 hl (k := 0) rfl (by rw [ey239]; rfl) (by decide) rfl (fun ls hl => ?_)
              refine lv_goto (tgt := 205) hx hb dX13_readItem_240 (by decide) ?_
              have fx244 : V235 (q + 8) = some (.inl (cs 1, 60, .inl (g107))) := (o237 (q + 8) (hq_ne q 8 4 (by decide))).trans (ho113)
              have fx245 : V235 (q + 1) = some (.inl (cs 1, 2, .inl (g39))) := (o237 (q + 1) (hq_ne q 1 4 (by decide))).trans (ho115)
              have fx246 : V235 (mo) = some (.inr (13, hm_o q (m_tp) (m_sz) (z53) (z54) (z55) (z69) (z70) (m_le) (m_fo) (m_as) (m_fd) (m_bc) (m_bg) (m_bs) (m_be) (m_b0) (m_b1) (m_cm) (m_hc))) := (o237 (mo) (hq_tne h_mo (hr_4 hR) (by simp))).trans (ho117)
              exact ih205 _ (by omega) _ _ _ ls (y238) rfl hZ hP fx244 fx245 fx246 (by omega) (by omega) (fun y9 t9 hy9 hg9 => (o237 y9 (hq_gne hy9 (hr_4 hR) hg9 (by decide))).trans (he205 y9 _ hy9 hg9)) (lv_sub hl [0, 1, 2] rfl)
        · have c82 : ¬ (r77).toInt = (-1 : Int) := fun h9 => c82 (hq_eqi.mpr h9)
          refine lv_aload_n hx hb dX13_readItem_172 rfl (lv_at hl 0 rfl) ?_
          refine lv_iconst (v := 2) hx hb dX13_readItem_173 (by decide) ?_
          have hl256 : (2 : Int32).toInt = 2 := by decide
          refine hp_callq (hp_runV (As := [.int (2)]) (rest := []) hx hb hml hown hts (t_X13_wrong l D cs B G  V74 n hP.1 q hR (mo) h_mo (2) ho80  (by omega) (by omega) (by omega) (by omega) (by omega) (by omega) (by omega) (by omega) ) hZ ho80 cv_X13_107 rfl rfl ⟨Nat.le_of_ble_eq_true rfl, Nat.le_of_ble_eq_true rfl⟩ rfl hl.1 rfl (Nat.le_of_ble_eq_true rfl) dX13_readItem_174 ⟨(Nat.le_of_ble_eq_true rfl), (Nat.le_of_ble_eq_true rfl)⟩) hZ (fun r250 V247 n248 _ _ hw249 hZ => ?_)
          obtain ⟨rfl, hq251, ⟨z253, z254, ho255⟩, hr252⟩ := hw249
          have hP := hP.trans hq251 (by intro g h; simp_all)
          have b257 := hq_rng z253
          have b258 := hq_rng z254
          subst hr252
          refine W.eq (g2 := F0 m 177 ls [.ref (q + 19)]) rfl ?_
          exact hq_athrow hx hb hnx hlocks hZ ⟨rfl, rfl, hP, ⟨z53, z54, z55, z253, z254, ho255, by assumption, by omega⟩, (hm_E.jh (fun y9 t9 hy9 hg9 => (hq251.2 y9 _ hy9 (by simp [hg9])).trans ((hq78.2 y9 _ hy9 rfl).trans ((hq67.2 y9 _ hy9 (by simp [hg9])).trans ((hq51.2 y9 _ hy9 (by simp [hg9])).trans ((hq14.2 y9 _ hy9 rfl).trans (hq5.2 y9 _ hy9 rfl)))))) hR)⟩ dX13_readItem_177
      · have c46 : (y42).toInt = (30 : Int) := hq_eqi.mp c46
        refine lv_aload_n hx hb dX13_readItem_150 rfl (lv_at hl 0 rfl) ?_
        refine lv_iconst (v := 4) hx hb dX13_readItem_151 (by decide) ?_
        have hl268 : (4 : Int32).toInt = 4 := by decide
        refine hp_callq (hp_runV (As := [.int (4)]) (rest := []) hx hb hml hown hts (t_X13_wrong l D cs B G  V10 n hP.1 q hR (mo) h_mo (4) ho16  (by omega) (by omega) (by omega) (by omega) (by omega) (by omega) (by omega) (by omega) ) hZ ho16 cv_X13_107 rfl rfl ⟨Nat.le_of_ble_eq_true rfl, Nat.le_of_ble_eq_true rfl⟩ rfl hl.1 rfl (Nat.le_of_ble_eq_true rfl) dX13_readItem_152 ⟨(Nat.le_of_ble_eq_true rfl), (Nat.le_of_ble_eq_true rfl)⟩) hZ (fun r262 V259 n260 _ _ hw261 hZ => ?_)
        obtain ⟨rfl, hq263, ⟨z265, z266, ho267⟩, hr264⟩ := hw261
        have hP := hP.trans hq263 (by intro g h; simp_all)
        have b269 := hq_rng z265
        have b270 := hq_rng z266
        subst hr264
        refine W.eq (g2 := F0 m 155 ls [.ref (q + 19)]) rfl ?_
        exact hq_athrow hx hb hnx hlocks hZ ⟨rfl, rfl, hP, ⟨m_fr, m_bh, m_hd, z265, z266, ho267, by assumption, by omega⟩, (hm_E.jh (fun y9 t9 hy9 hg9 => (hq263.2 y9 _ hy9 (by simp [hg9])).trans ((hq14.2 y9 _ hy9 rfl).trans (hq5.2 y9 _ hy9 rfl))) hR)⟩ dX13_readItem_155
  · have c9 : ¬ (r4).toInt = (0 : Int) := fun h9 => c9 (hq_eqi.mpr h9)
    refine lv_aload_n hx hb dX13_readItem_9 rfl (lv_at hl 0 rfl) ?_
    refine hp_get (v := .ref (q)) hx hb hts hown hZ ho7 fl_X13_1 rfl dX13_readItem_10 ?_
    refine lv_iconst (v := 1) hx hb dX13_readItem_13 (by decide) ?_
    obtain ⟨hN273, g272, eV271, hf274⟩ := hq_o21 hP.1 (hr_0 hR)
    refine hp_iald hx hb hZ eV271 (by unfold vp_in; decide) dX13_readItem_14 ?_
    refine lv_topi (fun y275 ey276 => ?_)
    have b278 : (y275).toInt = ((g272) (1 : Int32).toNatClampNeg).toInt := by rw [ey276]
    have b277 : hq_ir (hq_lo 11) (hq_hi 11) y275 := by rw [ey276]; exact hf274 _ (by decide)
    have b277 : 0 ≤ (y275).toInt ∧ (y275).toInt ≤ 6 := b277
    refine lv_bipush (v := 6) hx hb dX13_readItem_15 (by decide) ?_
    refine lv_icmp_ne (tgt := 26) hx hb dX13_readItem_17 (by decide) (fun c279 => ?_) (fun c279 => ?_)
    · have c279 : ¬ (y275).toInt = (6 : Int) := fun h9 => c279 (hq_eqi.mpr h9)
      refine lv_aload_n hx hb dX13_readItem_26 rfl (lv_at hl 0 rfl) ?_
      refine hp_callv (hp_runV (As := []) (rest := []) hx hb hml hown hts (t_X13_scan l D cs B G  V1 n hP.1 q hR (mo) h_mo ho7  (by omega) (by omega) (by omega) (by omega) (by omega) (by omega) (by omega) (by omega) (hm_SC.s0 (by assumption)) (hm_SC.s1 (by assumption) (by first | omega | (have h8 := hm_Is.hd (by assumption) (by omega); omega)))) hZ ho7 cv_X13_111 rfl rfl ⟨Nat.le_of_ble_eq_true rfl, Nat.le_of_ble_eq_true rfl⟩ rfl hl.1 rfl (Nat.le_of_ble_eq_true rfl) dX13_readItem_27 ⟨(Nat.le_of_ble_eq_true rfl), (Nat.le_of_ble_eq_true rfl)⟩) hZ (fun V280 n281 _ _ hw282 hZ => ?_)
      obtain ⟨rfl, hq284, ⟨z286, z287, z288, ho289, hi290, hi291, hi292⟩⟩ := hw282
      have hP := hP.trans hq284 (by intro g h; simp_all)
      have b293 := hq_rng z286
      have b294 := hq_rng z287
      have b295 := hq_rng z288
      refine lv_aload_n hx hb dX13_readItem_30 rfl (lv_at hl 0 rfl) ?_
      refine hq_callx (hq_runV (As := []) (rest := []) hx hb hml hown hts (t_X13_needName l D cs B G  V280 n hP.1 q hR (mo) h_mo ho289  (by omega) (by omega) (by omega) (by omega) (by omega) (by omega) (by omega) (by omega) (by assumption) ) hZ ho289 cv_X13_160 rfl rfl ⟨Nat.le_of_ble_eq_true rfl, Nat.le_of_ble_eq_true rfl⟩ rfl hl.1 rfl (Nat.le_of_ble_eq_true rfl) dX13_readItem_31 ⟨(Nat.le_of_ble_eq_true rfl), (Nat.le_of_ble_eq_true rfl)⟩) hZ hnx hlocks (by rintro x9 V9 n9 ⟨rfl, rfl, hq9, ⟨z302x, z303x, hox0⟩⟩; have hbxz302 := hq_rng z302x; have hbxz303 := hq_rng z303x; exact ⟨rfl, rfl, hP.trans hq9 (by intro g h; simp_all), ⟨z286, z287, z288, z302x, z303x, hox0, by assumption, by omega⟩, (hm_E.jh (fun y9 t9 hy9 hg9 => (hq284.2 y9 _ hy9 (by simp [hg9])).trans (hq5.2 y9 _ hy9 rfl)) hR).keep hR (fun x t hx hg => hq9.2 x t hx (by simp [hg]))⟩) (fun v9 V296 n297 _ _ hw298 hZ => ?_)
      obtain ⟨rfl, rfl, hq300, ⟨z302, z303, ho304⟩, hr301⟩ := hw298
      refine W.eq (g2 := F0 m 34 ls []) rfl ?_
      have hP := hP.trans hq300 (by intro g h; simp_all)
      have b305 := hq_rng z302
      have b306 := hq_rng z303
      have ha1 := hm_SC.a1 (by assumption : hm_SC m_sz z286 z287 z288) (by omega)
      refine lv_aload_n hx hb dX13_readItem_34 rfl (lv_at hl 0 rfl) ?_
      refine hp_calli (hp_runV (As := []) (rest := []) hx hb hml hown hts (t_X13_classAtHand l D cs B G  V296 n hP.1 q hR (mo) h_mo ho304  (by omega) (by omega) (by omega) (by omega) (by omega) (by omega) (by omega) (by omega) (by assumption) (by omega)) hZ ho304 cv_X13_163 rfl rfl ⟨Nat.le_of_ble_eq_true rfl, Nat.le_of_ble_eq_true rfl⟩ rfl hl.1 rfl (Nat.le_of_ble_eq_true rfl) dX13_readItem_35 ⟨(Nat.le_of_ble_eq_true rfl), (Nat.le_of_ble_eq_true rfl)⟩) hZ (fun r310 V307 n308 _ _ hw309 hZ => ?_)
      obtain ⟨rfl, hq311, ho313, hr312⟩ := hw309
      have hP := hP.trans hq311 (fun _ _ => rfl)
      have b314 := hq_rng r310
      refine lv_iconst (v := -1) hx hb dX13_readItem_38 (by decide) ?_
      refine lv_icmp_eq (tgt := 48) hx hb dX13_readItem_39 (by decide) (fun c315 => ?_) (fun c315 => ?_)
      · have c315 : (r310).toInt = (-1 : Int) := hq_eqi.mp c315
        refine lv_bipush (v := 6) hx hb dX13_readItem_48 (by decide) ?_
        refine lv_aload_n hx hb dX13_readItem_50 rfl (lv_at hl 0 rfl) ?_
        refine hp_get (v := .ref (q)) hx hb hts hown hZ ho313 fl_X13_1 rfl dX13_readItem_51 ?_
        refine lv_iconst (v := 1) hx hb dX13_readItem_54 (by decide) ?_
        have fx316 : V307 (q) = some (.inl (cs 1, 2, .inl (g272))) := (hq311.2 (q) _ (hr_0 hR) rfl).trans ((hq300.2 (q) _ (hr_0 hR) rfl).trans ((hq284.2 (q) _ (hr_0 hR) rfl).trans (eV271)))
        refine hp_iald hx hb hZ fx316 (by unfold vp_in; decide) dX13_readItem_55 ?_
        refine lv_topi (fun y317 ey318 => ?_)
        have b320 : (y317).toInt = ((g272) (1 : Int32).toNatClampNeg).toInt := by rw [ey318]
        have b319 : hq_ir (hq_lo 11) (hq_hi 11) y317 := by rw [ey318]; exact hf274 _ (by decide)
        have b319 : 0 ≤ (y317).toInt ∧ (y317).toInt ≤ 6 := b319
        refine lv_iadd hx hb dX13_readItem_56 ?_
        refine lv_topi (fun y321 ey322 => ?_)
        obtain ⟨k323, hk324, b325, b326⟩ := hq_add (6) (y317)
        rw [← ey322] at hk324 b325 b326
        have hk324 : (y321).toInt = (6 : Int) + (y317).toInt + k323 * 4294967296 := hk324
        obtain rfl : k323 = 0 := by omega
        refine lv_istore_n (lv' := [(1, .int (y321)), (0, .ref (mo))]) hx hb dX13_readItem_57 rfl hl (by decide) rfl (fun ls hl => ?_)
        refine lv_aload_n hx hb dX13_readItem_58 rfl (lv_at hl 1 rfl) ?_
        refine hp_get (v := .ref (q + 7)) hx hb hts hown hZ ho313 fl_X13_153 rfl dX13_readItem_59 ?_
        refine lv_iload_n hx hb dX13_readItem_62 rfl (lv_at hl 0 rfl) ?_
        refine lv_aload_n hx hb dX13_readItem_63 rfl (lv_at hl 1 rfl) ?_
        refine hp_get (v := .int (z287)) hx hb hts hown hZ ho313 fl_X13_76 rfl dX13_readItem_64 ?_
        refine lv_aload_n hx hb dX13_readItem_67 rfl (lv_at hl 1 rfl) ?_
        refine hp_get (v := .int (z286)) hx hb hts hown hZ ho313 fl_X13_60 rfl dX13_readItem_68 ?_
        refine lv_isub hx hb dX13_readItem_71 ?_
        refine lv_topi (fun y327 ey328 => ?_)
        obtain ⟨k329, hk330, b331, b332⟩ := hq_sub (z287) (z286)
        rw [← ey328] at hk330 b331 b332
        have hk330 : (y327).toInt = (z287).toInt - (z286).toInt + k329 * 4294967296 := hk330
        obtain rfl : k329 = 0 := by omega
        obtain ⟨hN335, g334, eV333, hf336⟩ := hq_o21 hP.1 (hr_7 hR)
        refine hp_iast hx hb hZ eV333 (hq_in (by omega) (by omega)) dX13_readItem_72 (fun V337 _ _ e338 o339 hZ => ?_)
        have e338 : V337 (q + 7) = some (.inl (cs 1, 12, .inl (upd (g334) ((y321 : Int32).toNatClampNeg) (y327)))) := e338
        have hP := hP.put (hr_7 hR) e338 o339 (hq_c21 (by omega) (hq_upd hf336 (show 0 ≤ _ ∧ _ ≤ 12 by constructor <;> omega))) rfl
        obtain ⟨g340, ge341⟩ : ∃ g9 : Nat → Int32, g9 = upd (g334) ((y321 : Int32).toNatClampNeg) (y327) := ⟨_, rfl⟩
        have fx343 : V337 (q + 7) = some (.inl (cs 1, 12, .inl (g340))) := by rw [ge341]; exact e338
        have hf342 := hq_rg hP.1 (hr_7 hR) fx343
        have b344 : (g340 (y321 : Int32).toNatClampNeg).toInt = (y327 : Int32).toInt := congrArg Int32.toInt ((congrFun ge341 _).trans hm_ue)
        refine lv_iconst (v := 0) hx hb dX13_readItem_73 (by decide) ?_
        refine lv_istore_n (lv' := [(2, .int (0)), (1, .int (y321)), (0, .ref (mo))]) hx hb dX13_readItem_74 rfl hl (by decide) rfl (fun ls hl => ?_)
        have hl345 : (0 : Int32).toInt = 0 := by decide
        have fx347 : V337 (q) = some (.inl (cs 1, 2, .inl (g272))) := (o339 (q) (hq_ne q 0 7 (by decide))).trans (fx316)
        have fx349 : V337 (mo) = some (.inr (13, hm_o q (m_tp) (m_sz) (z286) (z287) (z288) (z302) (z303) (m_le) (m_fo) (m_as) (m_fd) (m_bc) (m_bg) (m_bs) (m_be) (m_b0) (m_b1) (m_cm) (m_hc))) := (o339 (mo) (hq_tne h_mo (hr_7 hR) (by simp))).trans (ho313)
        suffices lp75 : ∀ (k9 : Nat) (V9 : hp_V) (H9 : Heap) (locs9 : List Loc) (ls : Array Slot) (i : Int32), (200 - i.toInt).toNat = k9 → hp_Z D cs B s V9 H9 n locs9 → hq_P cs G (fun g => g.1 == 1 || g.1 == 41 || g.1 == 50) V V9 → V9 (q + 7) = some (.inl (cs 1, 12, .inl (g340))) → V9 (q) = some (.inl (cs 1, 2, .inl (g272))) → V9 (mo) = some (.inr (13, hm_o q (m_tp) (m_sz) (z286) (z287) (z288) (z302) (z303) (m_le) (m_fo) (m_as) (m_fd) (m_bc) (m_bg) (m_bs) (m_be) (m_b0) (m_b1) (m_cm) (m_hc))) → 0 ≤ i.toInt → i.toInt ≤ 100 → hm_E G V V9 → lv_has ls 3 [(2, .int (i)), (1, .int (y321)), (0, .ref (mo))] → W p l e ({ frames := 11, cells := 0, slots := 0, locals := 234 }) s m ([.ref (mo)] : List Value).toArray below meth c H9 locs9 0 0 (hq_MQ below (hq_QX D cs B (fun v V' n' => v = none ∧ n = n' ∧ hq_P cs G (fun g => g.1 == 1 || g.1 == 41 || g.1 == 50) V V' ∧ (∃ (m_fr1 : Int32) (m_bh1 : Int32) (m_hd1 : Int32) (m_ft1 : Int32) (m_fa1 : Int32), V' mo = some (.inr (13, hm_o q (m_tp) (m_sz) (m_fr1) (m_bh1) (m_hd1) (m_ft1) (m_fa1) (m_le) (m_fo) (m_as) (m_fd) (m_bc) (m_bg) (m_bs) (m_be) (m_b0) (m_b1) (m_cm) (m_hc))) ∧ (hm_SC m_sz m_fr1 m_bh1 m_hd1) ∧ (m_bh.toInt ≤ m_bh1.toInt)) ∧ (hm_JH cs V V' q ∧ hm_JJ cs V V' q)) (fun x V' n' => x = q + 19 ∧ n = n' ∧ hq_P cs G (fun g => g.1 == 1 || g.1 == 41 || g.1 == 50) V V' ∧ (∃ (m_fr1 : Int32) (m_bh1 : Int32) (m_hd1 : Int32) (m_ft1 : Int32) (m_fa1 : Int32), V' mo = some (.inr (13, hm_o q (m_tp) (m_sz) (m_fr1) (m_bh1) (m_hd1) (m_ft1) (m_fa1) (m_le) (m_fo) (m_as) (m_fd) (m_bc) (m_bg) (m_bs) (m_be) (m_b0) (m_b1) (m_cm) (m_hc))) ∧ (hm_SC m_sz m_fr1 m_bh1 m_hd1) ∧ (m_bh.toInt ≤ m_bh1.toInt)) ∧ hm_JH cs V V' q)) ([.ref (mo)] : List Value).toArray s 0 0 (hp_F B)) (F0 m 75 ls []) from lp75 _ _ _ _ ls (0) rfl hZ hP fx343 fx347 fx349 (by omega) (by omega) (fun y9 t9 hy9 hg9 => (o339 y9 (hq_gne hy9 (hr_7 hR) hg9 (by decide))).trans ((hq311.2 y9 _ hy9 rfl).trans ((hq300.2 y9 _ hy9 (by simp [hg9])).trans ((hq284.2 y9 _ hy9 (by simp [hg9])).trans (hq5.2 y9 _ hy9 rfl))))) (lv_sub hl [0, 1, 2] rfl)
        intro k9
        induction k9 using Nat.strongRecOn with
        | _ k9 ih75 =>
          intro V9 H9 locs9 ls i  hk75 hZ hP ho346 ho348 ho350 hv351 hv352 he75 hl
          have hb_i := hq_rng i
          have hP_75 := hP
          have hf353 := hq_rg hP.1 (hr_7 hR) ho346
          have hf354 := hq_rg hP.1 (hr_0 hR) ho348
          refine lv_iload_n hx hb dX13_readItem_75 rfl (lv_at hl 0 rfl) ?_
          refine lv_aload_n hx hb dX13_readItem_76 rfl (lv_at hl 2 rfl) ?_
          refine hp_get (v := .ref (q + 7)) hx hb hts hown hZ ho350 fl_X13_153 rfl dX13_readItem_77 ?_
          refine lv_iload_n hx hb dX13_readItem_80 rfl (lv_at hl 1 rfl) ?_
          refine hp_iald hx hb hZ ho346 (hq_in (by omega) (by omega)) dX13_readItem_81 ?_
          refine lv_topi (fun y355 ey356 => ?_)
          have b358 : (y355).toInt = ((g340) (y321 : Int32).toNatClampNeg).toInt := by rw [ey356]
          have b357 : hq_ir (hq_lo 2) (hq_hi 2) y355 := by rw [ey356]; exact hf353 _ (hq_ix (by omega) (by omega))
          have b357 : 0 ≤ (y355).toInt ∧ (y355).toInt ≤ 12 := b357
          refine lv_icmp_ge (tgt := 113) hx hb dX13_readItem_82 (by decide) (fun c359 => ?_) (fun c359 => ?_)
          · have c359 : (y355).toInt ≤ (i).toInt := hq_lei.mp c359
            refine lv_aload_n hx hb dX13_readItem_113 rfl (lv_at hl 2 rfl) ?_
            refine hp_get (v := .ref (q)) hx hb hts hown hZ ho350 fl_X13_1 rfl dX13_readItem_114 ?_
            refine lv_iconst (v := 1) hx hb dX13_readItem_117 (by decide) ?_
            refine lv_dup2_11 hx hb dX13_readItem_118 rfl rfl ?_
            refine hp_iald hx hb hZ ho348 (by unfold vp_in; decide) dX13_readItem_119 ?_
            refine lv_topi (fun y360 ey361 => ?_)
            have b363 : (y360).toInt = ((g272) (1 : Int32).toNatClampNeg).toInt := by rw [ey361]
            have b362 : hq_ir (hq_lo 11) (hq_hi 11) y360 := by rw [ey361]; exact hf354 _ (by decide)
            have b362 : 0 ≤ (y360).toInt ∧ (y360).toInt ≤ 6 := b362
            refine lv_iconst (v := 1) hx hb dX13_readItem_120 (by decide) ?_
            refine lv_iadd hx hb dX13_readItem_121 ?_
            refine lv_topi (fun y364 ey365 => ?_)
            obtain ⟨k366, hk367, b368, b369⟩ := hq_add (y360) (1)
            rw [← ey365] at hk367 b368 b369
            have hk367 : (y364).toInt = (y360).toInt + (1 : Int) + k366 * 4294967296 := hk367
            obtain rfl : k366 = 0 := by omega
            refine hp_iast hx hb hZ ho348 (by unfold vp_in; decide) dX13_readItem_122 (fun V370 _ _ e371 o372 hZ => ?_)
            have e371 : V370 (q) = some (.inl (cs 1, 2, .inl (upd (g272) ((1 : Int32).toNatClampNeg) (y364)))) := e371
            have hP := hP.put (hr_0 hR) e371 o372 (hq_c21 (by omega) (hq_upd hf354 (show 0 ≤ _ ∧ _ ≤ 6 by constructor <;> omega))) rfl
            refine lv_aload_n hx hb dX13_readItem_123 rfl (lv_at hl 2 rfl) ?_
            have fx379 : V370 (mo) = some (.inr (13, hm_o q (m_tp) (m_sz) (z286) (z287) (z288) (z302) (z303) (m_le) (m_fo) (m_as) (m_fd) (m_bc) (m_bg) (m_bs) (m_be) (m_b0) (m_b1) (m_cm) (m_hc))) := (o372 (mo) (hq_tne h_mo (hr_0 hR) (by simp))).trans (ho350)
            refine hp_callv (hp_runV (As := []) (rest := []) hx hb hml hown hts (t_X13_scan l D cs B G  V370 n hP.1 q hR (mo) h_mo fx379  (by omega) (by omega) (by omega) (by omega) (by omega) (by omega) (by omega) (by omega) (hm_SC.s0 (by assumption)) (hm_SC.s1 (by assumption) (by first | omega | (have h8 := hm_Is.hd (by assumption) (by omega); omega)))) hZ fx379 cv_X13_111 rfl rfl ⟨Nat.le_of_ble_eq_true rfl, Nat.le_of_ble_eq_true rfl⟩ rfl hl.1 rfl (Nat.le_of_ble_eq_true rfl) dX13_readItem_124 ⟨(Nat.le_of_ble_eq_true rfl), (Nat.le_of_ble_eq_true rfl)⟩) hZ (fun V373 n374 _ _ hw375 hZ => ?_)
            obtain ⟨rfl, hq377, ⟨z380, z381, z382, ho383, hi384, hi385, hi386⟩⟩ := hw375
            have hP := hP.trans hq377 (by intro g h; simp_all)
            have b387 := hq_rng z380
            have b388 := hq_rng z381
            have b389 := hq_rng z382
            refine lv_goto (tgt := 280) hx hb dX13_readItem_127 (by decide) ?_
            exact hq_vret hx hb hr hlocks hZ ⟨rfl, rfl, hP, ⟨z380, z381, z382, z302, z303, ho383, by assumption, by omega⟩, ⟨hm_E.jh (fun y9 t9 hy9 hg9 => (hq377.2 y9 _ hy9 (by simp [hg9])).trans ((o372 y9 (hq_gne hy9 (hr_0 hR) hg9 (by decide))).trans (he75 y9 _ hy9 hg9))) hR, hm_E.jj (fun y9 t9 hy9 hg9 => (hq377.2 y9 _ hy9 (by simp [hg9])).trans ((o372 y9 (hq_gne hy9 (hr_0 hR) hg9 (by decide))).trans (he75 y9 _ hy9 hg9))) hR⟩⟩ dX13_readItem_280
          · have c359 : ¬ (y355).toInt ≤ (i).toInt := fun h9 => c359 (hq_lei.mpr h9)
            refine lv_aload_n hx hb dX13_readItem_85 rfl (lv_at hl 2 rfl) ?_
            refine hp_get (v := .ref (q + 3)) hx hb hts hown hZ ho350 fl_X13_150 rfl dX13_readItem_86 ?_
            refine lv_bipush (v := 12) hx hb dX13_readItem_89 (by decide) ?_
            refine lv_iload_n hx hb dX13_readItem_91 rfl (lv_at hl 1 rfl) ?_
            refine lv_imul hx hb dX13_readItem_92 ?_
            refine lv_topi (fun y390 ey391 => ?_)
            obtain ⟨k392, hk393, b394, b395⟩ := hq_mul (12) (y321)
            rw [← ey391] at hk393 b394 b395
            have hk393 : (y390).toInt = (12 : Int) * (y321).toInt + k392 * 4294967296 := hk393
            obtain rfl : k392 = 0 := by omega
            refine lv_iload_n hx hb dX13_readItem_93 rfl (lv_at hl 0 rfl) ?_
            refine lv_iadd hx hb dX13_readItem_94 ?_
            refine lv_topi (fun y396 ey397 => ?_)
            obtain ⟨k398, hk399, b400, b401⟩ := hq_add (y390) (i)
            rw [← ey397] at hk399 b400 b401
            have hk399 : (y396).toInt = (y390).toInt + (i).toInt + k398 * 4294967296 := hk399
            obtain rfl : k398 = 0 := by omega
            refine lv_aload_n hx hb dX13_readItem_95 rfl (lv_at hl 2 rfl) ?_
            refine hp_get (v := .ref (q + 20)) hx hb hts hown hZ ho350 fl_X13_73 rfl dX13_readItem_96 ?_
            refine lv_aload_n hx hb dX13_readItem_99 rfl (lv_at hl 2 rfl) ?_
            refine hp_get (v := .int (z286)) hx hb hts hown hZ ho350 fl_X13_60 rfl dX13_readItem_100 ?_
            refine lv_iload_n hx hb dX13_readItem_103 rfl (lv_at hl 0 rfl) ?_
            refine lv_iadd hx hb dX13_readItem_104 ?_
            refine lv_topi (fun y402 ey403 => ?_)
            obtain ⟨k404, hk405, b406, b407⟩ := hq_add (z286) (i)
            rw [← ey403] at hk405 b406 b407
            have hk405 : (y402).toInt = (z286).toInt + (i).toInt + k404 * 4294967296 := hk405
            obtain rfl : k404 = 0 := by omega
            obtain ⟨hN410, g409, eV408⟩ := hq_o20 hP.1 (hr_20 hR)
            refine hp_bald hx hb hZ eV408 (hq_in (by omega) (by omega)) dX13_readItem_105 ?_
            refine lv_topi (fun y412 ey413 => ?_)
            have b415 : (y412).toInt = ((g409) (y402 : Int32).toNatClampNeg).toInt := by rw [ey413]
            have b414 := hq_rng y412
            obtain ⟨hN418, g417, eV416⟩ := hq_o20 hP.1 (hr_3 hR)
            refine hp_bast hx hb hZ eV416 (hq_in (by omega) (by omega)) dX13_readItem_106 (fun V420 _ _ e421 o422 hZ => ?_)
            have e421 : V420 (q + 3) = some (.inl (cs 0, 144, .inl (upd (g417) ((y396 : Int32).toNatClampNeg) ((y412 : Int32).toInt8.toInt32)))) := e421
            have hP := hP.put (hr_3 hR) e421 o422 (hq_c20 (by omega)) rfl
            obtain ⟨y423, ey424⟩ : ∃ y : Int32, y = i + (1) := ⟨_, rfl⟩
            obtain ⟨k425, hk426, b427, b428⟩ := hq_add (i) (1)
            rw [← ey424] at hk426 b427 b428
            have hk426 : (y423).toInt = (i).toInt + (1) + k425 * 4294967296 := hk426
            refine lv_iinc (v := y423) (lv' := [(2, .int (y423)), (1, .int (y321)), (0, .ref (mo))]) hx hb dX13_readItem_107 hl (k := 0) rfl (by rw [ey424]; rfl) (by decide) rfl (fun ls hl => ?_)
            refine lv_goto (tgt := 75) hx hb dX13_readItem_110 (by decide) ?_
            have fx429 : V420 (q + 7) = some (.inl (cs 1, 12, .inl (g340))) := (o422 (q + 7) (hq_ne q 7 3 (by decide))).trans (ho346)
            have fx430 : V420 (q) = some (.inl (cs 1, 2, .inl (g272))) := (o422 (q) (hq_ne q 0 3 (by decide))).trans (ho348)
            have fx431 : V420 (mo) = some (.inr (13, hm_o q (m_tp) (m_sz) (z286) (z287) (z288) (z302) (z303) (m_le) (m_fo) (m_as) (m_fd) (m_bc) (m_bg) (m_bs) (m_be) (m_b0) (m_b1) (m_cm) (m_hc))) := (o422 (mo) (hq_tne h_mo (hr_3 hR) (by simp))).trans (ho350)
            exact ih75 _ (by omega) _ _ _ ls (y423) rfl hZ hP fx429 fx430 fx431 (by omega) (by omega) (fun y9 t9 hy9 hg9 => (o422 y9 (hq_gne hy9 (hr_3 hR) hg9 (by decide))).trans (he75 y9 _ hy9 hg9)) (lv_sub hl [0, 1, 2] rfl)
      · have c315 : ¬ (r310).toInt = (-1 : Int) := fun h9 => c315 (hq_eqi.mpr h9)
        refine lv_aload_n hx hb dX13_readItem_42 rfl (lv_at hl 0 rfl) ?_
        refine lv_iconst (v := 2) hx hb dX13_readItem_43 (by decide) ?_
        have hl441 : (2 : Int32).toInt = 2 := by decide
        refine hp_callq (hp_runV (As := [.int (2)]) (rest := []) hx hb hml hown hts (t_X13_wrong l D cs B G  V307 n hP.1 q hR (mo) h_mo (2) ho313  (by omega) (by omega) (by omega) (by omega) (by omega) (by omega) (by omega) (by omega) ) hZ ho313 cv_X13_107 rfl rfl ⟨Nat.le_of_ble_eq_true rfl, Nat.le_of_ble_eq_true rfl⟩ rfl hl.1 rfl (Nat.le_of_ble_eq_true rfl) dX13_readItem_44 ⟨(Nat.le_of_ble_eq_true rfl), (Nat.le_of_ble_eq_true rfl)⟩) hZ (fun r435 V432 n433 _ _ hw434 hZ => ?_)
        obtain ⟨rfl, hq436, ⟨z438, z439, ho440⟩, hr437⟩ := hw434
        have hP := hP.trans hq436 (by intro g h; simp_all)
        have b442 := hq_rng z438
        have b443 := hq_rng z439
        subst hr437
        refine W.eq (g2 := F0 m 47 ls [.ref (q + 19)]) rfl ?_
        exact hq_athrow hx hb hnx hlocks hZ ⟨rfl, rfl, hP, ⟨z286, z287, z288, z438, z439, ho440, by assumption, by omega⟩, (hm_E.jh (fun y9 t9 hy9 hg9 => (hq436.2 y9 _ hy9 (by simp [hg9])).trans ((hq311.2 y9 _ hy9 rfl).trans ((hq300.2 y9 _ hy9 (by simp [hg9])).trans ((hq284.2 y9 _ hy9 (by simp [hg9])).trans (hq5.2 y9 _ hy9 rfl))))) hR)⟩ dX13_readItem_47
    · have c279 : (y275).toInt = (6 : Int) := hq_eqi.mp c279
      refine lv_aload_n hx hb dX13_readItem_20 rfl (lv_at hl 0 rfl) ?_
      refine lv_iconst (v := 4) hx hb dX13_readItem_21 (by decide) ?_
      have hl453 : (4 : Int32).toInt = 4 := by decide
      refine hp_callq (hp_runV (As := [.int (4)]) (rest := []) hx hb hml hown hts (t_X13_wrong l D cs B G  V1 n hP.1 q hR (mo) h_mo (4) ho7  (by omega) (by omega) (by omega) (by omega) (by omega) (by omega) (by omega) (by omega) ) hZ ho7 cv_X13_107 rfl rfl ⟨Nat.le_of_ble_eq_true rfl, Nat.le_of_ble_eq_true rfl⟩ rfl hl.1 rfl (Nat.le_of_ble_eq_true rfl) dX13_readItem_22 ⟨(Nat.le_of_ble_eq_true rfl), (Nat.le_of_ble_eq_true rfl)⟩) hZ (fun r447 V444 n445 _ _ hw446 hZ => ?_)
      obtain ⟨rfl, hq448, ⟨z450, z451, ho452⟩, hr449⟩ := hw446
      have hP := hP.trans hq448 (by intro g h; simp_all)
      have b454 := hq_rng z450
      have b455 := hq_rng z451
      subst hr449
      refine W.eq (g2 := F0 m 25 ls [.ref (q + 19)]) rfl ?_
      exact hq_athrow hx hb hnx hlocks hZ ⟨rfl, rfl, hP, ⟨m_fr, m_bh, m_hd, z450, z451, ho452, by assumption, by omega⟩, (hm_E.jh (fun y9 t9 hy9 hg9 => (hq448.2 y9 _ hy9 (by simp [hg9])).trans (hq5.2 y9 _ hy9 rfl)) hR)⟩ dX13_readItem_25

set_option maxHeartbeats 4000000 in
set_option maxRecDepth 100000 in
theorem t_X13_readLine (l : Launch) (D : va_G) (cs : Nat → ClassId) (B : Nat) (G : hq_G) (V : hp_V) (n : Nat) (hI : hq_I cs G V) (q : Nat) (hR : hq_RT G q) (mo : Nat) (h_mo : G mo = some (24, 0, 0, 0)) {m_tp m_sz m_fr m_bh m_hd m_ft m_fa m_le m_fo m_as m_fd m_bc m_bg m_bs m_be m_b0 m_b1 m_cm m_hc : Int32} (ho_mo : V mo = some (.inr (13, hm_o q (m_tp) (m_sz) (m_fr) (m_bh) (m_hd) (m_ft) (m_fa) (m_le) (m_fo) (m_as) (m_fd) (m_bc) (m_bg) (m_bs) (m_be) (m_b0) (m_b1) (m_cm) (m_hc)))) (hi_mo0 : 0 ≤ m_tp.toInt ∧ m_tp.toInt ≤ 4000) (hi_mo1 : 0 ≤ m_sz.toInt ∧ m_sz.toInt ≤ 4000) (hi_mo2 : 0 ≤ m_le.toInt ∧ m_le.toInt ≤ 276) (hi_mo3 : 0 ≤ m_fo.toInt ∧ m_fo.toInt ≤ 4) (hi_mo4 : 0 ≤ m_as.toInt ∧ m_as.toInt ≤ 4000) (hi_mo5 : 0 ≤ m_fd.toInt ∧ m_fd.toInt ≤ 900) (hi_mo6 : 0 ≤ m_cm.toInt ∧ m_cm.toInt ≤ 2) (hi_mo7 : 0 ≤ m_hc.toInt ∧ m_hc.toInt ≤ 1) (hi_mo8 : hm_SC m_sz m_fr m_bh m_hd) : hq_M l yX13_readLine cX13_readLine 3 none ({ frames := 10, cells := 0, slots := 0, locals := 212 }) D cs B V n [.ref (mo)] (hq_QX D cs B (fun v V' n' => v = none ∧ n = n' ∧ hq_P cs G (fun g => g.1 == 1 || g.1 == 41 || g.1 == 50) V V' ∧ (∃ (m_fr1 : Int32) (m_bh1 : Int32) (m_hd1 : Int32) (m_ft1 : Int32) (m_fa1 : Int32), V' mo = some (.inr (13, hm_o q (m_tp) (m_sz) (m_fr1) (m_bh1) (m_hd1) (m_ft1) (m_fa1) (m_le) (m_fo) (m_as) (m_fd) (m_bc) (m_bg) (m_bs) (m_be) (m_b0) (m_b1) (m_cm) (m_hc))) ∧ (hm_SC m_sz m_fr1 m_bh1 m_hd1)) ∧ (hm_JH cs V V' q ∧ hm_JJ cs V V' q)) (fun x V' n' => x = q + 19 ∧ n = n' ∧ hq_P cs G (fun g => g.1 == 1 || g.1 == 41 || g.1 == 50) V V' ∧ (∃ (m_fr1 : Int32) (m_bh1 : Int32) (m_hd1 : Int32) (m_ft1 : Int32) (m_fa1 : Int32), V' mo = some (.inr (13, hm_o q (m_tp) (m_sz) (m_fr1) (m_bh1) (m_hd1) (m_ft1) (m_fa1) (m_le) (m_fo) (m_as) (m_fd) (m_bc) (m_bg) (m_bs) (m_be) (m_b0) (m_b1) (m_cm) (m_hc))) ∧ (hm_SC m_sz m_fr1 m_bh1 m_hd1)) ∧ hm_JH cs V V' q)) 0 0 := by
  refine hq_walk (R0 := RX13) (by decide) rfl ?_ (Nat.le_of_ble_eq_true rfl)
  intro p e s m below meth c ls hx hb hr hts hown hlocks hin hml hnx hZ hl
  have hP : hq_P cs G (fun g => g.1 == 1 || g.1 == 41 || g.1 == 50) V V := hq_P.rf hI
  have hl : lv_has ls 3 [(0, .ref (mo))] := hl
  have hb_m_tp := hq_rng m_tp
  have hb_m_sz := hq_rng m_sz
  have hb_m_fr := hq_rng m_fr
  have hb_m_bh := hq_rng m_bh
  have hb_m_hd := hq_rng m_hd
  have hb_m_ft := hq_rng m_ft
  have hb_m_fa := hq_rng m_fa
  have hb_m_le := hq_rng m_le
  have hb_m_fo := hq_rng m_fo
  have hb_m_as := hq_rng m_as
  have hb_m_fd := hq_rng m_fd
  have hb_m_bc := hq_rng m_bc
  have hb_m_bg := hq_rng m_bg
  have hb_m_bs := hq_rng m_bs
  have hb_m_be := hq_rng m_be
  have hb_m_b0 := hq_rng m_b0
  have hb_m_b1 := hq_rng m_b1
  have hb_m_cm := hq_rng m_cm
  have hb_m_hc := hq_rng m_hc
  obtain ⟨hN3, g2, eV1, hf4⟩ := hq_o21 hP.1 (hr_10 hR)
  obtain ⟨hN7, g6, eV5, hf8⟩ := hq_o21 hP.1 (hr_14 hR)
  obtain ⟨hN11, g10, eV9, hf12⟩ := hq_o21 hP.1 (hr_2 hR)
  refine lv_aload_n hx hb dX13_readLine_0 rfl (lv_at hl 0 rfl) ?_
  refine va_ldcS (tx := (hp_so.getD 4 ("", 0, "")).2.2) (q := cs (100 + 4)) hx hb hown (hZ.2.2.2.2.2.2.2.2.2.2 4 (by decide)) dX13_readLine_1 ?_
  refine hp_calli (hp_runV (As := [.ref (cs (100 + 4))]) (rest := []) hx hb hml hown hts (t_X13_is l D cs B G  V n hP.1 q hR (mo) h_mo 4 (by decide) ho_mo  (by omega) (by omega) (by omega) (by omega) (by omega) (by omega) (by omega) (by omega) (by assumption) ) hZ ho_mo cv_X13_103 rfl rfl ⟨Nat.le_of_ble_eq_true rfl, Nat.le_of_ble_eq_true rfl⟩ rfl hl.1 rfl (Nat.le_of_ble_eq_true rfl) dX13_readLine_3 ⟨(Nat.le_of_ble_eq_true rfl), (Nat.le_of_ble_eq_true rfl)⟩) hZ (fun r16 V13 n14 _ _ hw15 hZ => ?_)
  obtain ⟨rfl, hq17, ho19, hr18⟩ := hw15
  have hP := hP.trans hq17 (fun _ _ => rfl)
  have b20 := hq_rng r16
  refine lv_if_eq (tgt := 13) hx hb dX13_readLine_6 (by decide) (fun c21 => ?_) (fun c21 => ?_)
  · have c21 : (r16).toInt = (0 : Int) := hq_eqi.mp c21
    refine lv_aload_n hx hb dX13_readLine_13 rfl (lv_at hl 0 rfl) ?_
    refine va_ldcS (tx := (hp_so.getD 6 ("", 0, "")).2.2) (q := cs (100 + 6)) hx hb hown (hZ.2.2.2.2.2.2.2.2.2.2 6 (by decide)) dX13_readLine_14 ?_
    refine hp_calli (hp_runV (As := [.ref (cs (100 + 6))]) (rest := []) hx hb hml hown hts (t_X13_is l D cs B G  V13 n hP.1 q hR (mo) h_mo 6 (by decide) ho19  (by omega) (by omega) (by omega) (by omega) (by omega) (by omega) (by omega) (by omega) (by assumption) ) hZ ho19 cv_X13_103 rfl rfl ⟨Nat.le_of_ble_eq_true rfl, Nat.le_of_ble_eq_true rfl⟩ rfl hl.1 rfl (Nat.le_of_ble_eq_true rfl) dX13_readLine_16 ⟨(Nat.le_of_ble_eq_true rfl), (Nat.le_of_ble_eq_true rfl)⟩) hZ (fun r25 V22 n23 _ _ hw24 hZ => ?_)
    obtain ⟨rfl, hq26, ho28, hr27⟩ := hw24
    have hP := hP.trans hq26 (fun _ _ => rfl)
    have b29 := hq_rng r25
    refine lv_if_eq (tgt := 26) hx hb dX13_readLine_19 (by decide) (fun c30 => ?_) (fun c30 => ?_)
    · have c30 : (r25).toInt = (0 : Int) := hq_eqi.mp c30
      refine lv_aload_n hx hb dX13_readLine_26 rfl (lv_at hl 0 rfl) ?_
      refine va_ldcS (tx := (hp_so.getD 7 ("", 0, "")).2.2) (q := cs (100 + 7)) hx hb hown (hZ.2.2.2.2.2.2.2.2.2.2 7 (by decide)) dX13_readLine_27 ?_
      refine hp_calli (hp_runV (As := [.ref (cs (100 + 7))]) (rest := []) hx hb hml hown hts (t_X13_is l D cs B G  V22 n hP.1 q hR (mo) h_mo 7 (by decide) ho28  (by omega) (by omega) (by omega) (by omega) (by omega) (by omega) (by omega) (by omega) (by assumption) ) hZ ho28 cv_X13_103 rfl rfl ⟨Nat.le_of_ble_eq_true rfl, Nat.le_of_ble_eq_true rfl⟩ rfl hl.1 rfl (Nat.le_of_ble_eq_true rfl) dX13_readLine_29 ⟨(Nat.le_of_ble_eq_true rfl), (Nat.le_of_ble_eq_true rfl)⟩) hZ (fun r34 V31 n32 _ _ hw33 hZ => ?_)
      obtain ⟨rfl, hq35, ho37, hr36⟩ := hw33
      have hP := hP.trans hq35 (fun _ _ => rfl)
      have b38 := hq_rng r34
      refine lv_if_eq (tgt := 39) hx hb dX13_readLine_32 (by decide) (fun c39 => ?_) (fun c39 => ?_)
      · have c39 : (r34).toInt = (0 : Int) := hq_eqi.mp c39
        refine lv_aload_n hx hb dX13_readLine_39 rfl (lv_at hl 0 rfl) ?_
        refine va_ldcS (tx := (hp_so.getD 9 ("", 0, "")).2.2) (q := cs (100 + 9)) hx hb hown (hZ.2.2.2.2.2.2.2.2.2.2 9 (by decide)) dX13_readLine_40 ?_
        refine hp_calli (hp_runV (As := [.ref (cs (100 + 9))]) (rest := []) hx hb hml hown hts (t_X13_is l D cs B G  V31 n hP.1 q hR (mo) h_mo 9 (by decide) ho37  (by omega) (by omega) (by omega) (by omega) (by omega) (by omega) (by omega) (by omega) (by assumption) ) hZ ho37 cv_X13_103 rfl rfl ⟨Nat.le_of_ble_eq_true rfl, Nat.le_of_ble_eq_true rfl⟩ rfl hl.1 rfl (Nat.le_of_ble_eq_true rfl) dX13_readLine_42 ⟨(Nat.le_of_ble_eq_true rfl), (Nat.le_of_ble_eq_true rfl)⟩) hZ (fun r43 V40 n41 _ _ hw42 hZ => ?_)
        obtain ⟨rfl, hq44, ho46, hr45⟩ := hw42
        have hP := hP.trans hq44 (fun _ _ => rfl)
        have b47 := hq_rng r43
        refine lv_if_eq (tgt := 52) hx hb dX13_readLine_45 (by decide) (fun c48 => ?_) (fun c48 => ?_)
        · have c48 : (r43).toInt = (0 : Int) := hq_eqi.mp c48
          refine lv_aload_n hx hb dX13_readLine_52 rfl (lv_at hl 0 rfl) ?_
          refine va_ldcS (tx := (hp_so.getD 13 ("", 0, "")).2.2) (q := cs (100 + 13)) hx hb hown (hZ.2.2.2.2.2.2.2.2.2.2 13 (by decide)) dX13_readLine_53 ?_
          refine hp_calli (hp_runV (As := [.ref (cs (100 + 13))]) (rest := []) hx hb hml hown hts (t_X13_is l D cs B G  V40 n hP.1 q hR (mo) h_mo 13 (by decide) ho46  (by omega) (by omega) (by omega) (by omega) (by omega) (by omega) (by omega) (by omega) (by assumption) ) hZ ho46 cv_X13_103 rfl rfl ⟨Nat.le_of_ble_eq_true rfl, Nat.le_of_ble_eq_true rfl⟩ rfl hl.1 rfl (Nat.le_of_ble_eq_true rfl) dX13_readLine_55 ⟨(Nat.le_of_ble_eq_true rfl), (Nat.le_of_ble_eq_true rfl)⟩) hZ (fun r52 V49 n50 _ _ hw51 hZ => ?_)
          obtain ⟨rfl, hq53, ho55, hr54⟩ := hw51
          have hP := hP.trans hq53 (fun _ _ => rfl)
          have b56 := hq_rng r52
          refine lv_if_eq (tgt := 65) hx hb dX13_readLine_58 (by decide) (fun c57 => ?_) (fun c57 => ?_)
          · have c57 : (r52).toInt = (0 : Int) := hq_eqi.mp c57
            refine lv_aload_n hx hb dX13_readLine_65 rfl (lv_at hl 0 rfl) ?_
            refine va_ldcS (tx := (hp_so.getD 14 ("", 0, "")).2.2) (q := cs (100 + 14)) hx hb hown (hZ.2.2.2.2.2.2.2.2.2.2 14 (by decide)) dX13_readLine_66 ?_
            refine hp_calli (hp_runV (As := [.ref (cs (100 + 14))]) (rest := []) hx hb hml hown hts (t_X13_is l D cs B G  V49 n hP.1 q hR (mo) h_mo 14 (by decide) ho55  (by omega) (by omega) (by omega) (by omega) (by omega) (by omega) (by omega) (by omega) (by assumption) ) hZ ho55 cv_X13_103 rfl rfl ⟨Nat.le_of_ble_eq_true rfl, Nat.le_of_ble_eq_true rfl⟩ rfl hl.1 rfl (Nat.le_of_ble_eq_true rfl) dX13_readLine_68 ⟨(Nat.le_of_ble_eq_true rfl), (Nat.le_of_ble_eq_true rfl)⟩) hZ (fun r61 V58 n59 _ _ hw60 hZ => ?_)
            obtain ⟨rfl, hq62, ho64, hr63⟩ := hw60
            have hP := hP.trans hq62 (fun _ _ => rfl)
            have b65 := hq_rng r61
            refine lv_if_eq (tgt := 78) hx hb dX13_readLine_71 (by decide) (fun c66 => ?_) (fun c66 => ?_)
            · have c66 : (r61).toInt = (0 : Int) := hq_eqi.mp c66
              refine lv_iconst (v := -1) hx hb dX13_readLine_78 (by decide) ?_
              refine lv_istore_n (lv' := [(1, .int (-1)), (0, .ref (mo))]) hx hb dX13_readLine_79 rfl hl (by decide) rfl (fun ls hl => ?_)
              refine lv_iload_n hx hb dX13_readLine_80 rfl (lv_at hl 0 rfl) ?_
              refine lv_iconst (v := -1) hx hb dX13_readLine_81 (by decide) ?_
              refine lv_icmp_ne (tgt := 91) hx hb dX13_readLine_82 (by decide) (fun c67 => absurd (by decide) c67) (fun c67 => ?_)
              refine lv_aload_n hx hb dX13_readLine_85 rfl (lv_at hl 1 rfl) ?_
              refine lv_iconst (v := 1) hx hb dX13_readLine_86 (by decide) ?_
              have hl77 : (1 : Int32).toInt = 1 := by decide
              refine hp_callq (hp_runV (As := [.int (1)]) (rest := []) hx hb hml hown hts (t_X13_wrong l D cs B G  V58 n hP.1 q hR (mo) h_mo (1) ho64  (by omega) (by omega) (by omega) (by omega) (by omega) (by omega) (by omega) (by omega) ) hZ ho64 cv_X13_107 rfl rfl ⟨Nat.le_of_ble_eq_true rfl, Nat.le_of_ble_eq_true rfl⟩ rfl hl.1 rfl (Nat.le_of_ble_eq_true rfl) dX13_readLine_87 ⟨(Nat.le_of_ble_eq_true rfl), (Nat.le_of_ble_eq_true rfl)⟩) hZ (fun r71 V68 n69 _ _ hw70 hZ => ?_)
              obtain ⟨rfl, hq72, ⟨z74, z75, ho76⟩, hr73⟩ := hw70
              have hP := hP.trans hq72 (by intro g h; simp_all)
              have b78 := hq_rng z74
              have b79 := hq_rng z75
              subst hr73
              refine W.eq (g2 := F0 m 90 ls [.ref (q + 19)]) rfl ?_
              have fx80 : V68 (q + 10) = some (.inl (cs 1, 120, .inl (g2))) := (hq72.2 (q + 10) _ (hr_10 hR) rfl).trans ((hq62.2 (q + 10) _ (hr_10 hR) rfl).trans ((hq53.2 (q + 10) _ (hr_10 hR) rfl).trans ((hq44.2 (q + 10) _ (hr_10 hR) rfl).trans ((hq35.2 (q + 10) _ (hr_10 hR) rfl).trans ((hq26.2 (q + 10) _ (hr_10 hR) rfl).trans ((hq17.2 (q + 10) _ (hr_10 hR) rfl).trans (eV1)))))))
              have fx81 : V68 (q + 14) = some (.inl (cs 1, 120, .inl (g6))) := (hq72.2 (q + 14) _ (hr_14 hR) rfl).trans ((hq62.2 (q + 14) _ (hr_14 hR) rfl).trans ((hq53.2 (q + 14) _ (hr_14 hR) rfl).trans ((hq44.2 (q + 14) _ (hr_14 hR) rfl).trans ((hq35.2 (q + 14) _ (hr_14 hR) rfl).trans ((hq26.2 (q + 14) _ (hr_14 hR) rfl).trans ((hq17.2 (q + 14) _ (hr_14 hR) rfl).trans (eV5)))))))
              have fx82 : V68 (q + 2) = some (.inl (cs 1, 2, .inl (g10))) := (hq72.2 (q + 2) _ (hr_2 hR) rfl).trans ((hq62.2 (q + 2) _ (hr_2 hR) rfl).trans ((hq53.2 (q + 2) _ (hr_2 hR) rfl).trans ((hq44.2 (q + 2) _ (hr_2 hR) rfl).trans ((hq35.2 (q + 2) _ (hr_2 hR) rfl).trans ((hq26.2 (q + 2) _ (hr_2 hR) rfl).trans ((hq17.2 (q + 2) _ (hr_2 hR) rfl).trans (eV9)))))))
              exact hq_athrow hx hb hnx hlocks hZ ⟨rfl, rfl, hP, ⟨m_fr, m_bh, m_hd, z74, z75, ho76, by assumption⟩, (hm_JH.of eV1 eV5 eV9 fx80 fx81 fx82 (fun j hj => rfl) (fun j hj => rfl) rfl (hq_rg hI (hr_2 hR) eV9 0 (by decide)).2)⟩ dX13_readLine_90
            · have c66 : ¬ (r61).toInt = (0 : Int) := fun h9 => c66 (hq_eqi.mpr h9)
              refine lv_iconst (v := 5) hx hb dX13_readLine_74 (by decide) ?_
              refine lv_goto (tgt := 79) hx hb dX13_readLine_75 (by decide) ?_
              refine lv_istore_n (lv' := [(1, .int (5)), (0, .ref (mo))]) hx hb dX13_readLine_79 rfl hl (by decide) rfl (fun ls hl => ?_)
              refine lv_iload_n hx hb dX13_readLine_80 rfl (lv_at hl 0 rfl) ?_
              refine lv_iconst (v := -1) hx hb dX13_readLine_81 (by decide) ?_
              refine lv_icmp_ne (tgt := 91) hx hb dX13_readLine_82 (by decide) (fun c83 => ?_) (fun c83 => absurd c83 (by decide))
              refine lv_aload_n hx hb dX13_readLine_91 rfl (lv_at hl 1 rfl) ?_
              refine hp_get (v := .ref (q + 2)) hx hb hts hown hZ ho64 fl_X13_10 rfl dX13_readLine_92 ?_
              refine lv_iconst (v := 1) hx hb dX13_readLine_95 (by decide) ?_
              have fx84 : V58 (q + 2) = some (.inl (cs 1, 2, .inl (g10))) := (hq62.2 (q + 2) _ (hr_2 hR) rfl).trans ((hq53.2 (q + 2) _ (hr_2 hR) rfl).trans ((hq44.2 (q + 2) _ (hr_2 hR) rfl).trans ((hq35.2 (q + 2) _ (hr_2 hR) rfl).trans ((hq26.2 (q + 2) _ (hr_2 hR) rfl).trans ((hq17.2 (q + 2) _ (hr_2 hR) rfl).trans (eV9))))))
              refine hp_iald hx hb hZ fx84 (by unfold vp_in; decide) dX13_readLine_96 ?_
              refine lv_topi (fun y85 ey86 => ?_)
              have b88 : (y85).toInt = ((g10) (1 : Int32).toNatClampNeg).toInt := by rw [ey86]
              have b87 : hq_ir (hq_lo 8) (hq_hi 8) y85 := by rw [ey86]; exact hf12 _ (by decide)
              have b87 : 0 ≤ (y85).toInt ∧ (y85).toInt ≤ 60 := b87
              refine lv_bipush (v := 60) hx hb dX13_readLine_97 (by decide) ?_
              refine lv_icmp_ne (tgt := 108) hx hb dX13_readLine_99 (by decide) (fun c89 => ?_) (fun c89 => ?_)
              · have c89 : ¬ (y85).toInt = (60 : Int) := fun h9 => c89 (hq_eqi.mpr h9)
                refine lv_bipush (v := 60) hx hb dX13_readLine_108 (by decide) ?_
                refine lv_aload_n hx hb dX13_readLine_110 rfl (lv_at hl 1 rfl) ?_
                refine hp_get (v := .ref (q + 2)) hx hb hts hown hZ ho64 fl_X13_10 rfl dX13_readLine_111 ?_
                refine lv_iconst (v := 1) hx hb dX13_readLine_114 (by decide) ?_
                refine hp_iald hx hb hZ fx84 (by unfold vp_in; decide) dX13_readLine_115 ?_
                refine lv_topi (fun y90 ey91 => ?_)
                have b93 : (y90).toInt = ((g10) (1 : Int32).toNatClampNeg).toInt := by rw [ey91]
                have b92 : hq_ir (hq_lo 8) (hq_hi 8) y90 := by rw [ey91]; exact hf12 _ (by decide)
                have b92 : 0 ≤ (y90).toInt ∧ (y90).toInt ≤ 60 := b92
                refine lv_iadd hx hb dX13_readLine_116 ?_
                refine lv_topi (fun y94 ey95 => ?_)
                obtain ⟨k96, hk97, b98, b99⟩ := hq_add (60) (y90)
                rw [← ey95] at hk97 b98 b99
                have hk97 : (y94).toInt = (60 : Int) + (y90).toInt + k96 * 4294967296 := hk97
                obtain rfl : k96 = 0 := by omega
                refine lv_istore_n (lv' := [(2, .int (y94)), (1, .int (5)), (0, .ref (mo))]) hx hb dX13_readLine_117 rfl hl (by decide) rfl (fun ls hl => ?_)
                refine lv_aload_n hx hb dX13_readLine_118 rfl (lv_at hl 2 rfl) ?_
                refine hp_get (v := .ref (q + 10)) hx hb hts hown hZ ho64 fl_X13_29 rfl dX13_readLine_119 ?_
                refine lv_iload_n hx hb dX13_readLine_122 rfl (lv_at hl 0 rfl) ?_
                refine lv_iload_n hx hb dX13_readLine_123 rfl (lv_at hl 1 rfl) ?_
                have fx100 : V58 (q + 10) = some (.inl (cs 1, 120, .inl (g2))) := (hq62.2 (q + 10) _ (hr_10 hR) rfl).trans ((hq53.2 (q + 10) _ (hr_10 hR) rfl).trans ((hq44.2 (q + 10) _ (hr_10 hR) rfl).trans ((hq35.2 (q + 10) _ (hr_10 hR) rfl).trans ((hq26.2 (q + 10) _ (hr_10 hR) rfl).trans ((hq17.2 (q + 10) _ (hr_10 hR) rfl).trans (eV1))))))
                refine hp_iast hx hb hZ fx100 (hq_in (by omega) (by omega)) dX13_readLine_124 (fun V101 _ _ e102 o103 hZ => ?_)
                have e102 : V101 (q + 10) = some (.inl (cs 1, 120, .inl (upd (g2) ((y94 : Int32).toNatClampNeg) (5)))) := e102
                have hl104 : (5 : Int32).toInt = 5 := by decide
                have hP := hP.put (hr_10 hR) e102 o103 (hq_c21 (by omega) (hq_upd hf4 (hq_rng _))) rfl
                obtain ⟨g105, ge106⟩ : ∃ g9 : Nat → Int32, g9 = upd (g2) ((y94 : Int32).toNatClampNeg) (5) := ⟨_, rfl⟩
                have fx108 : V101 (q + 10) = some (.inl (cs 1, 120, .inl (g105))) := by rw [ge106]; exact e102
                have hf107 := hq_rg hP.1 (hr_10 hR) fx108
                have b109 : (g105 (y94 : Int32).toNatClampNeg).toInt = (5 : Int32).toInt := congrArg Int32.toInt ((congrFun ge106 _).trans hm_ue)
                have b110 : (5 : Int32).toInt = 5 := by decide
                refine lv_aload_n hx hb dX13_readLine_125 rfl (lv_at hl 2 rfl) ?_
                have fx111 : V101 (mo) = some (.inr (13, hm_o q (m_tp) (m_sz) (m_fr) (m_bh) (m_hd) (m_ft) (m_fa) (m_le) (m_fo) (m_as) (m_fd) (m_bc) (m_bg) (m_bs) (m_be) (m_b0) (m_b1) (m_cm) (m_hc))) := (o103 (mo) (hq_tne h_mo (hr_10 hR) (by simp))).trans (ho64)
                refine hp_get (v := .ref (q + 11)) hx hb hts hown hZ fx111 fl_X13_32 rfl dX13_readLine_126 ?_
                refine lv_iload_n hx hb dX13_readLine_129 rfl (lv_at hl 0 rfl) ?_
                refine lv_iconst (v := -1) hx hb dX13_readLine_130 (by decide) ?_
                obtain ⟨hN114, g113, eV112, hf115⟩ := hq_o21 hP.1 (hr_11 hR)
                refine hp_iast hx hb hZ eV112 (hq_in (by omega) (by omega)) dX13_readLine_131 (fun V116 _ _ e117 o118 hZ => ?_)
                have e117 : V116 (q + 11) = some (.inl (cs 1, 120, .inl (upd (g113) ((y94 : Int32).toNatClampNeg) (-1)))) := e117
                have hl119 : (-1 : Int32).toInt = -1 := by decide
                have hP := hP.put (hr_11 hR) e117 o118 (hq_c21 (by omega) (hq_upd hf115 (hq_rng _))) rfl
                refine lv_aload_n hx hb dX13_readLine_132 rfl (lv_at hl 2 rfl) ?_
                have fx120 : V116 (mo) = some (.inr (13, hm_o q (m_tp) (m_sz) (m_fr) (m_bh) (m_hd) (m_ft) (m_fa) (m_le) (m_fo) (m_as) (m_fd) (m_bc) (m_bg) (m_bs) (m_be) (m_b0) (m_b1) (m_cm) (m_hc))) := (o118 (mo) (hq_tne h_mo (hr_11 hR) (by simp))).trans (fx111)
                refine hp_get (v := .ref (q + 12)) hx hb hts hown hZ fx120 fl_X13_35 rfl dX13_readLine_133 ?_
                refine lv_iload_n hx hb dX13_readLine_136 rfl (lv_at hl 0 rfl) ?_
                refine lv_iconst (v := -1) hx hb dX13_readLine_137 (by decide) ?_
                obtain ⟨hN123, g122, eV121, hf124⟩ := hq_o21 hP.1 (hr_12 hR)
                refine hp_iast hx hb hZ eV121 (hq_in (by omega) (by omega)) dX13_readLine_138 (fun V125 _ _ e126 o127 hZ => ?_)
                have e126 : V125 (q + 12) = some (.inl (cs 1, 120, .inl (upd (g122) ((y94 : Int32).toNatClampNeg) (-1)))) := e126
                have hl128 : (-1 : Int32).toInt = -1 := by decide
                have hP := hP.put (hr_12 hR) e126 o127 (hq_c21 (by omega) (hq_upd hf124 (hq_rng _))) rfl
                refine lv_aload_n hx hb dX13_readLine_139 rfl (lv_at hl 2 rfl) ?_
                have fx129 : V125 (mo) = some (.inr (13, hm_o q (m_tp) (m_sz) (m_fr) (m_bh) (m_hd) (m_ft) (m_fa) (m_le) (m_fo) (m_as) (m_fd) (m_bc) (m_bg) (m_bs) (m_be) (m_b0) (m_b1) (m_cm) (m_hc))) := (o127 (mo) (hq_tne h_mo (hr_12 hR) (by simp))).trans (fx120)
                refine hp_get (v := .ref (q + 13)) hx hb hts hown hZ fx129 fl_X13_38 rfl dX13_readLine_140 ?_
                refine lv_iload_n hx hb dX13_readLine_143 rfl (lv_at hl 0 rfl) ?_
                refine lv_iconst (v := -1) hx hb dX13_readLine_144 (by decide) ?_
                obtain ⟨hN132, g131, eV130, hf133⟩ := hq_o21 hP.1 (hr_13 hR)
                refine hp_iast hx hb hZ eV130 (hq_in (by omega) (by omega)) dX13_readLine_145 (fun V134 _ _ e135 o136 hZ => ?_)
                have e135 : V134 (q + 13) = some (.inl (cs 1, 120, .inl (upd (g131) ((y94 : Int32).toNatClampNeg) (-1)))) := e135
                have hl137 : (-1 : Int32).toInt = -1 := by decide
                have hP := hP.put (hr_13 hR) e135 o136 (hq_c21 (by omega) (hq_upd hf133 (hq_rng _))) rfl
                refine lv_aload_n hx hb dX13_readLine_146 rfl (lv_at hl 2 rfl) ?_
                have fx138 : V134 (mo) = some (.inr (13, hm_o q (m_tp) (m_sz) (m_fr) (m_bh) (m_hd) (m_ft) (m_fa) (m_le) (m_fo) (m_as) (m_fd) (m_bc) (m_bg) (m_bs) (m_be) (m_b0) (m_b1) (m_cm) (m_hc))) := (o136 (mo) (hq_tne h_mo (hr_13 hR) (by simp))).trans (fx129)
                refine hp_get (v := .ref (q + 14)) hx hb hts hown hZ fx138 fl_X13_41 rfl dX13_readLine_147 ?_
                refine lv_iload_n hx hb dX13_readLine_150 rfl (lv_at hl 0 rfl) ?_
                refine lv_iconst (v := 0) hx hb dX13_readLine_151 (by decide) ?_
                have fx139 : V134 (q + 14) = some (.inl (cs 1, 120, .inl (g6))) := (o136 (q + 14) (hq_ne q 14 13 (by decide))).trans ((o127 (q + 14) (hq_ne q 14 12 (by decide))).trans ((o118 (q + 14) (hq_ne q 14 11 (by decide))).trans ((o103 (q + 14) (hq_ne q 14 10 (by decide))).trans ((hq62.2 (q + 14) _ (hr_14 hR) rfl).trans ((hq53.2 (q + 14) _ (hr_14 hR) rfl).trans ((hq44.2 (q + 14) _ (hr_14 hR) rfl).trans ((hq35.2 (q + 14) _ (hr_14 hR) rfl).trans ((hq26.2 (q + 14) _ (hr_14 hR) rfl).trans ((hq17.2 (q + 14) _ (hr_14 hR) rfl).trans (eV5))))))))))
                refine hp_iast hx hb hZ fx139 (hq_in (by omega) (by omega)) dX13_readLine_152 (fun V140 _ _ e141 o142 hZ => ?_)
                have e141 : V140 (q + 14) = some (.inl (cs 1, 120, .inl (upd (g6) ((y94 : Int32).toNatClampNeg) (0)))) := e141
                have hl143 : (0 : Int32).toInt = 0 := by decide
                have hP := hP.put (hr_14 hR) e141 o142 (hq_c21 (by omega) (hq_upd hf8 (show 0 ≤ _ ∧ _ ≤ 8 by constructor <;> omega))) rfl
                obtain ⟨g144, ge145⟩ : ∃ g9 : Nat → Int32, g9 = upd (g6) ((y94 : Int32).toNatClampNeg) (0) := ⟨_, rfl⟩
                have fx147 : V140 (q + 14) = some (.inl (cs 1, 120, .inl (g144))) := by rw [ge145]; exact e141
                have hf146 := hq_rg hP.1 (hr_14 hR) fx147
                have b148 : (g144 (y94 : Int32).toNatClampNeg).toInt = (0 : Int32).toInt := congrArg Int32.toInt ((congrFun ge145 _).trans hm_ue)
                have b149 : (0 : Int32).toInt = 0 := by decide
                refine lv_aload_n hx hb dX13_readLine_153 rfl (lv_at hl 2 rfl) ?_
                have fx150 : V140 (mo) = some (.inr (13, hm_o q (m_tp) (m_sz) (m_fr) (m_bh) (m_hd) (m_ft) (m_fa) (m_le) (m_fo) (m_as) (m_fd) (m_bc) (m_bg) (m_bs) (m_be) (m_b0) (m_b1) (m_cm) (m_hc))) := (o142 (mo) (hq_tne h_mo (hr_14 hR) (by simp))).trans (fx138)
                refine hp_get (v := .ref (q + 15)) hx hb hts hown hZ fx150 fl_X13_44 rfl dX13_readLine_154 ?_
                refine lv_iload_n hx hb dX13_readLine_157 rfl (lv_at hl 0 rfl) ?_
                refine lv_iconst (v := 0) hx hb dX13_readLine_158 (by decide) ?_
                obtain ⟨hN153, g152, eV151, hf154⟩ := hq_o21 hP.1 (hr_15 hR)
                refine hp_iast hx hb hZ eV151 (hq_in (by omega) (by omega)) dX13_readLine_159 (fun V155 _ _ e156 o157 hZ => ?_)
                have e156 : V155 (q + 15) = some (.inl (cs 1, 120, .inl (upd (g152) ((y94 : Int32).toNatClampNeg) (0)))) := e156
                have hl158 : (0 : Int32).toInt = 0 := by decide
                have hP := hP.put (hr_15 hR) e156 o157 (hq_c21 (by omega) (hq_upd hf154 (show 0 ≤ _ ∧ _ ≤ 8 by constructor <;> omega))) rfl
                refine lv_aload_n hx hb dX13_readLine_160 rfl (lv_at hl 2 rfl) ?_
                have fx159 : V155 (mo) = some (.inr (13, hm_o q (m_tp) (m_sz) (m_fr) (m_bh) (m_hd) (m_ft) (m_fa) (m_le) (m_fo) (m_as) (m_fd) (m_bc) (m_bg) (m_bs) (m_be) (m_b0) (m_b1) (m_cm) (m_hc))) := (o157 (mo) (hq_tne h_mo (hr_15 hR) (by simp))).trans (fx150)
                refine hp_get (v := .ref (q + 16)) hx hb hts hown hZ fx159 fl_X13_47 rfl dX13_readLine_161 ?_
                refine lv_iload_n hx hb dX13_readLine_164 rfl (lv_at hl 0 rfl) ?_
                refine lv_iconst (v := 0) hx hb dX13_readLine_165 (by decide) ?_
                obtain ⟨hN162, g161, eV160, hf163⟩ := hq_o21 hP.1 (hr_16 hR)
                refine hp_iast hx hb hZ eV160 (hq_in (by omega) (by omega)) dX13_readLine_166 (fun V164 _ _ e165 o166 hZ => ?_)
                have e165 : V164 (q + 16) = some (.inl (cs 1, 120, .inl (upd (g161) ((y94 : Int32).toNatClampNeg) (0)))) := e165
                have hl167 : (0 : Int32).toInt = 0 := by decide
                have hP := hP.put (hr_16 hR) e165 o166 (hq_c21 (by omega) (hq_upd hf163 (show 0 ≤ _ ∧ _ ≤ 29 by constructor <;> omega))) rfl
                refine lv_aload_n hx hb dX13_readLine_167 rfl (lv_at hl 2 rfl) ?_
                have fx174 : V164 (mo) = some (.inr (13, hm_o q (m_tp) (m_sz) (m_fr) (m_bh) (m_hd) (m_ft) (m_fa) (m_le) (m_fo) (m_as) (m_fd) (m_bc) (m_bg) (m_bs) (m_be) (m_b0) (m_b1) (m_cm) (m_hc))) := (o166 (mo) (hq_tne h_mo (hr_16 hR) (by simp))).trans (fx159)
                refine hp_callv (hp_runV (As := []) (rest := []) hx hb hml hown hts (t_X13_scan l D cs B G  V164 n hP.1 q hR (mo) h_mo fx174  (by omega) (by omega) (by omega) (by omega) (by omega) (by omega) (by omega) (by omega) (hm_SC.s0 (by assumption)) (hm_SC.s1 (by assumption) (by first | omega | (have h8 := hm_Is.hd (by assumption) (by omega); omega)))) hZ fx174 cv_X13_111 rfl rfl ⟨Nat.le_of_ble_eq_true rfl, Nat.le_of_ble_eq_true rfl⟩ rfl hl.1 rfl (Nat.le_of_ble_eq_true rfl) dX13_readLine_168 ⟨(Nat.le_of_ble_eq_true rfl), (Nat.le_of_ble_eq_true rfl)⟩) hZ (fun V168 n169 _ _ hw170 hZ => ?_)
                obtain ⟨rfl, hq172, ⟨z175, z176, z177, ho178, hi179⟩⟩ := hw170
                have hP := hP.trans hq172 (by intro g h; simp_all)
                have b180 := hq_rng z175
                have b181 := hq_rng z176
                have b182 := hq_rng z177
                refine lv_iload_n hx hb dX13_readLine_171 rfl (lv_at hl 1 rfl) ?_
                refine lv_iconst (v := 4) hx hb dX13_readLine_172 (by decide) ?_
                refine lv_icmp_eq (tgt := 181) hx hb dX13_readLine_173 (by decide) (fun c183 => absurd c183 (by decide)) (fun c183 => ?_)
                refine lv_iload_n hx hb dX13_readLine_176 rfl (lv_at hl 1 rfl) ?_
                refine lv_iconst (v := 5) hx hb dX13_readLine_177 (by decide) ?_
                refine lv_icmp_ne (tgt := 194) hx hb dX13_readLine_178 (by decide) (fun c184 => absurd (by decide) c184) (fun c184 => ?_)
                refine lv_aload_n hx hb dX13_readLine_181 rfl (lv_at hl 2 rfl) ?_
                refine hp_get (v := .ref (q + 11)) hx hb hts hown hZ ho178 fl_X13_32 rfl dX13_readLine_182 ?_
                refine lv_iload_n hx hb dX13_readLine_185 rfl (lv_at hl 0 rfl) ?_
                refine lv_aload_n hx hb dX13_readLine_186 rfl (lv_at hl 2 rfl) ?_
                have fx198 : V168 (q + 10) = some (.inl (cs 1, 120, .inl (g105))) := (hq172.2 (q + 10) _ (hr_10 hR) rfl).trans ((o166 (q + 10) (hq_ne q 10 16 (by decide))).trans ((o157 (q + 10) (hq_ne q 10 15 (by decide))).trans ((o142 (q + 10) (hq_ne q 10 14 (by decide))).trans ((o136 (q + 10) (hq_ne q 10 13 (by decide))).trans ((o127 (q + 10) (hq_ne q 10 12 (by decide))).trans ((o118 (q + 10) (hq_ne q 10 11 (by decide))).trans (fx108)))))))
                have fx199 : V168 (q + 14) = some (.inl (cs 1, 120, .inl (g144))) := (hq172.2 (q + 14) _ (hr_14 hR) rfl).trans ((o166 (q + 14) (hq_ne q 14 16 (by decide))).trans ((o157 (q + 14) (hq_ne q 14 15 (by decide))).trans (fx147)))
                have fx200 : V168 (q + 2) = some (.inl (cs 1, 2, .inl (g10))) := (hq172.2 (q + 2) _ (hr_2 hR) rfl).trans ((o166 (q + 2) (hq_ne q 2 16 (by decide))).trans ((o157 (q + 2) (hq_ne q 2 15 (by decide))).trans ((o142 (q + 2) (hq_ne q 2 14 (by decide))).trans ((o136 (q + 2) (hq_ne q 2 13 (by decide))).trans ((o127 (q + 2) (hq_ne q 2 12 (by decide))).trans ((o118 (q + 2) (hq_ne q 2 11 (by decide))).trans ((o103 (q + 2) (hq_ne q 2 10 (by decide))).trans (fx84))))))))
                refine hq_callx (hq_runV (As := []) (rest := [.int (y94), .ref (q + 11)]) hx hb hml hown hts (t_X13_takeVerb l D cs B G  V168 n hP.1 q hR (mo) h_mo ho178  (by omega) (by omega) (by omega) (by omega) (by omega) (by omega) (by omega) (by omega) (by assumption) ) hZ ho178 cv_X13_182 rfl rfl ⟨Nat.le_of_ble_eq_true rfl, Nat.le_of_ble_eq_true rfl⟩ rfl hl.1 rfl (Nat.le_of_ble_eq_true rfl) dX13_readLine_187 ⟨(Nat.le_of_ble_eq_true rfl), (Nat.le_of_ble_eq_true rfl)⟩) hZ hnx hlocks (by rintro x9 V9 n9 ⟨rfl, rfl, hq9, ⟨z191x, z192x, z193x, z194x, z195x, hox0, hix00⟩⟩; have hbxz191 := hq_rng z191x; have hbxz192 := hq_rng z192x; have hbxz193 := hq_rng z193x; have hbxz194 := hq_rng z194x; have hbxz195 := hq_rng z195x; exact ⟨rfl, rfl, hP.trans hq9 (by intro g h; simp_all), ⟨z191x, z192x, z193x, z194x, z195x, hox0, by assumption⟩, ((hm_JH.of eV1 eV5 eV9 fx198 fx199 fx200 (fun j hj => (congrFun ge106 j).trans (hm_ub (by omega) hj)) (fun j hj => (congrFun ge145 j).trans (hm_ub (by omega) hj)) rfl (hq_rg hI (hr_2 hR) eV9 0 (by decide)).2)).keep hR (fun x t hx hg => hq9.2 x t hx (by simp [hg]))⟩) (fun v9 V185 n186 _ _ hw187 hZ => ?_)
                obtain ⟨r188, rfl, rfl, hq189, ⟨z191, z192, z193, z194, z195, ho196, hi197⟩, hr190⟩ := hw187
                refine W.eq (g2 := F0 m 190 ls [.int (r188), .int (y94), .ref (q + 11)]) rfl ?_
                have hP := hP.trans hq189 (by intro g h; simp_all)
                have b201 := hq_rng z191
                have b202 := hq_rng z192
                have b203 := hq_rng z193
                have b204 := hq_rng z194
                have b205 := hq_rng z195
                have b206 := hq_rng r188
                obtain ⟨hN209, g208, eV207, hf210⟩ := hq_o21 hP.1 (hr_11 hR)
                refine hp_iast hx hb hZ eV207 (hq_in (by omega) (by omega)) dX13_readLine_190 (fun V211 _ _ e212 o213 hZ => ?_)
                have e212 : V211 (q + 11) = some (.inl (cs 1, 120, .inl (upd (g208) ((y94 : Int32).toNatClampNeg) (r188)))) := e212
                have hP := hP.put (hr_11 hR) e212 o213 (hq_c21 (by omega) (hq_upd hf210 (hq_rng _))) rfl
                refine lv_goto (tgt := 204) hx hb dX13_readLine_191 (by decide) ?_
                refine lv_iload_n hx hb dX13_readLine_204 rfl (lv_at hl 1 rfl) ?_
                refine lv_iconst (v := 2) hx hb dX13_readLine_205 (by decide) ?_
                refine lv_icmp_eq (tgt := 219) hx hb dX13_readLine_206 (by decide) (fun c214 => absurd c214 (by decide)) (fun c214 => ?_)
                refine lv_iload_n hx hb dX13_readLine_209 rfl (lv_at hl 1 rfl) ?_
                refine lv_iconst (v := 3) hx hb dX13_readLine_210 (by decide) ?_
                refine lv_icmp_eq (tgt := 219) hx hb dX13_readLine_211 (by decide) (fun c215 => absurd c215 (by decide)) (fun c215 => ?_)
                refine lv_aload_n hx hb dX13_readLine_214 rfl (lv_at hl 2 rfl) ?_
                refine lv_iload_n hx hb dX13_readLine_215 rfl (lv_at hl 0 rfl) ?_
                have fx222 : V211 (mo) = some (.inr (13, hm_o q (m_tp) (m_sz) (z191) (z192) (z193) (z194) (z195) (m_le) (m_fo) (m_as) (m_fd) (m_bc) (m_bg) (m_bs) (m_be) (m_b0) (m_b1) (m_cm) (m_hc))) := (o213 (mo) (hq_tne h_mo (hr_11 hR) (by simp))).trans (ho196)
                have fx230 : V211 (q + 10) = some (.inl (cs 1, 120, .inl (g105))) := (o213 (q + 10) (hq_ne q 10 11 (by decide))).trans ((hq189.2 (q + 10) _ (hr_10 hR) rfl).trans (fx198))
                have fx231 : V211 (q + 14) = some (.inl (cs 1, 120, .inl (g144))) := (o213 (q + 14) (hq_ne q 14 11 (by decide))).trans ((hq189.2 (q + 14) _ (hr_14 hR) rfl).trans (fx199))
                have fx232 : V211 (q + 2) = some (.inl (cs 1, 2, .inl (g10))) := (o213 (q + 2) (hq_ne q 2 11 (by decide))).trans ((hq189.2 (q + 2) _ (hr_2 hR) rfl).trans (fx200))
                refine hq_callx (hq_runV (As := [.int (y94)]) (rest := []) hx hb hml hown hts (t_X13_readSlot l D cs B G  V211 n hP.1 q hR (mo) h_mo (y94) fx222  (by omega) (by omega) (by omega) (by omega) (by omega) (by omega) (by omega) (by omega) (by assumption) (by omega) (by omega)) hZ fx222 cv_X13_189 rfl rfl ⟨Nat.le_of_ble_eq_true rfl, Nat.le_of_ble_eq_true rfl⟩ rfl hl.1 rfl (Nat.le_of_ble_eq_true rfl) dX13_readLine_216 ⟨(Nat.le_of_ble_eq_true rfl), (Nat.le_of_ble_eq_true rfl)⟩) hZ hnx hlocks (by rintro x9 V9 n9 ⟨rfl, rfl, hq9, ⟨z223x, z224x, z225x, z226x, z227x, hox0, hix00⟩⟩; have hbxz223 := hq_rng z223x; have hbxz224 := hq_rng z224x; have hbxz225 := hq_rng z225x; have hbxz226 := hq_rng z226x; have hbxz227 := hq_rng z227x; exact ⟨rfl, rfl, hP.trans hq9 (by intro g h; simp_all), ⟨z223x, z224x, z225x, z226x, z227x, hox0, by assumption⟩, ((hm_JH.of eV1 eV5 eV9 fx230 fx231 fx232 (fun j hj => (congrFun ge106 j).trans (hm_ub (by omega) hj)) (fun j hj => (congrFun ge145 j).trans (hm_ub (by omega) hj)) rfl (hq_rg hI (hr_2 hR) eV9 0 (by decide)).2)).keep hR (fun x t hx hg => hq9.2 x t hx (by simp [hg]))⟩) (fun v9 V216 n217 _ _ hw218 hZ => ?_)
                obtain ⟨rfl, rfl, hq220, ⟨z223, z224, z225, z226, z227, ho228, hi229⟩⟩ := hw218
                refine W.eq (g2 := F0 m 219 ls []) rfl ?_
                have hP := hP.trans hq220 (by intro g h; simp_all)
                have b233 := hq_rng z223
                have b234 := hq_rng z224
                have b235 := hq_rng z225
                have b236 := hq_rng z226
                have b237 := hq_rng z227
                refine lv_iload_n hx hb dX13_readLine_219 rfl (lv_at hl 1 rfl) ?_
                refine lv_iconst (v := 3) hx hb dX13_readLine_220 (by decide) ?_
                refine lv_icmp_ne (tgt := 229) hx hb dX13_readLine_221 (by decide) (fun c238 => ?_) (fun c238 => absurd c238 (by decide))
                refine lv_iload_n hx hb dX13_readLine_229 rfl (lv_at hl 1 rfl) ?_
                refine lv_if_eq (tgt := 248) hx hb dX13_readLine_230 (by decide) (fun c239 => absurd c239 (by decide)) (fun c239 => ?_)
                refine lv_iload_n hx hb dX13_readLine_233 rfl (lv_at hl 1 rfl) ?_
                refine lv_iconst (v := 1) hx hb dX13_readLine_234 (by decide) ?_
                refine lv_icmp_eq (tgt := 248) hx hb dX13_readLine_235 (by decide) (fun c240 => absurd c240 (by decide)) (fun c240 => ?_)
                refine lv_iload_n hx hb dX13_readLine_238 rfl (lv_at hl 1 rfl) ?_
                refine lv_iconst (v := 2) hx hb dX13_readLine_239 (by decide) ?_
                refine lv_icmp_eq (tgt := 248) hx hb dX13_readLine_240 (by decide) (fun c241 => absurd c241 (by decide)) (fun c241 => ?_)
                refine lv_iload_n hx hb dX13_readLine_243 rfl (lv_at hl 1 rfl) ?_
                refine lv_iconst (v := 4) hx hb dX13_readLine_244 (by decide) ?_
                refine lv_icmp_ne (tgt := 321) hx hb dX13_readLine_245 (by decide) (fun c242 => ?_) (fun c242 => absurd c242 (by decide))
                refine lv_iload_n hx hb dX13_readLine_321 rfl (lv_at hl 1 rfl) ?_
                refine lv_if_eq (tgt := 330) hx hb dX13_readLine_322 (by decide) (fun c243 => absurd c243 (by decide)) (fun c243 => ?_)
                refine lv_iload_n hx hb dX13_readLine_325 rfl (lv_at hl 1 rfl) ?_
                refine lv_iconst (v := 2) hx hb dX13_readLine_326 (by decide) ?_
                refine lv_icmp_ne (tgt := 365) hx hb dX13_readLine_327 (by decide) (fun c244 => ?_) (fun c244 => absurd c244 (by decide))
                refine lv_iload_n hx hb dX13_readLine_365 rfl (lv_at hl 1 rfl) ?_
                refine lv_iconst (v := 2) hx hb dX13_readLine_366 (by decide) ?_
                refine lv_icmp_ne (tgt := 390) hx hb dX13_readLine_367 (by decide) (fun c245 => ?_) (fun c245 => absurd c245 (by decide))
                refine lv_aload_n hx hb dX13_readLine_390 rfl (lv_at hl 2 rfl) ?_
                refine hp_get (v := .ref (q + 2)) hx hb hts hown hZ ho228 fl_X13_10 rfl dX13_readLine_391 ?_
                refine lv_iconst (v := 1) hx hb dX13_readLine_394 (by decide) ?_
                refine lv_dup2_11 hx hb dX13_readLine_395 rfl rfl ?_
                have fx246 : V216 (q + 2) = some (.inl (cs 1, 2, .inl (g10))) := (hq220.2 (q + 2) _ (hr_2 hR) rfl).trans (fx232)
                refine hp_iald hx hb hZ fx246 (by unfold vp_in; decide) dX13_readLine_396 ?_
                refine lv_topi (fun y247 ey248 => ?_)
                have b250 : (y247).toInt = ((g10) (1 : Int32).toNatClampNeg).toInt := by rw [ey248]
                have b249 : hq_ir (hq_lo 8) (hq_hi 8) y247 := by rw [ey248]; exact hf12 _ (by decide)
                have b249 : 0 ≤ (y247).toInt ∧ (y247).toInt ≤ 60 := b249
                refine lv_iconst (v := 1) hx hb dX13_readLine_397 (by decide) ?_
                refine lv_iadd hx hb dX13_readLine_398 ?_
                refine lv_topi (fun y251 ey252 => ?_)
                obtain ⟨k253, hk254, b255, b256⟩ := hq_add (y247) (1)
                rw [← ey252] at hk254 b255 b256
                have hk254 : (y251).toInt = (y247).toInt + (1 : Int) + k253 * 4294967296 := hk254
                obtain rfl : k253 = 0 := by omega
                refine hp_iast hx hb hZ fx246 (by unfold vp_in; decide) dX13_readLine_399 (fun V257 _ _ e258 o259 hZ => ?_)
                have e258 : V257 (q + 2) = some (.inl (cs 1, 2, .inl (upd (g10) ((1 : Int32).toNatClampNeg) (y251)))) := e258
                have hP := hP.put (hr_2 hR) e258 o259 (hq_c21 (by omega) (hq_upd hf12 (show 0 ≤ _ ∧ _ ≤ 60 by constructor <;> omega))) rfl
                obtain ⟨g260, ge261⟩ : ∃ g9 : Nat → Int32, g9 = upd (g10) ((1 : Int32).toNatClampNeg) (y251) := ⟨_, rfl⟩
                have fx263 : V257 (q + 2) = some (.inl (cs 1, 2, .inl (g260))) := by rw [ge261]; exact e258
                have hf262 := hq_rg hP.1 (hr_2 hR) fx263
                have b264 : (g260 (1 : Int32).toNatClampNeg).toInt = (y251 : Int32).toInt := congrArg Int32.toInt ((congrFun ge261 _).trans hm_ue)
                have fx265 : V257 (mo) = some (.inr (13, hm_o q (m_tp) (m_sz) (z223) (z224) (z225) (z226) (z227) (m_le) (m_fo) (m_as) (m_fd) (m_bc) (m_bg) (m_bs) (m_be) (m_b0) (m_b1) (m_cm) (m_hc))) := (o259 (mo) (hq_tne h_mo (hr_2 hR) (by simp))).trans (ho228)
                have fx266 : V257 (q + 10) = some (.inl (cs 1, 120, .inl (g105))) := (o259 (q + 10) (hq_ne q 10 2 (by decide))).trans ((hq220.2 (q + 10) _ (hr_10 hR) rfl).trans (fx230))
                have fx267 : V257 (q + 14) = some (.inl (cs 1, 120, .inl (g144))) := (o259 (q + 14) (hq_ne q 14 2 (by decide))).trans ((hq220.2 (q + 14) _ (hr_14 hR) rfl).trans (fx231))
                exact hq_vret hx hb hr hlocks hZ ⟨rfl, rfl, hP, ⟨z223, z224, z225, z226, z227, fx265, by assumption⟩, ⟨(hm_JH.of eV1 eV5 eV9 fx266 fx267 fx263 (fun j hj => (congrFun ge106 j).trans (hm_ub (by omega) hj)) (fun j hj => (congrFun ge145 j).trans (hm_ub (by omega) hj)) ((congrFun ge261 0).trans (hm_un (by decide))) (hq_rg hI (hr_2 hR) eV9 0 (by decide)).2), (hm_JJ.of (l := y94) eV1 eV5 eV9 fx266 fx267 fx263 (by omega) (by omega) (fun j hj => (congrFun ge106 j).trans (hm_un hj)) (fun j hj => (congrFun ge145 j).trans (hm_un hj)) (by rw [show g260 (1 : Int32).toNatClampNeg = _ from (congrFun ge261 _).trans hm_ue]; omega) (fun h9 => by rw [show g105 y94.toNatClampNeg = 5 from (congrFun ge106 _).trans hm_ue] at h9; exact absurd h9 (by decide)))⟩⟩ dX13_readLine_400
              · have c89 : (y85).toInt = (60 : Int) := hq_eqi.mp c89
                refine lv_aload_n hx hb dX13_readLine_102 rfl (lv_at hl 1 rfl) ?_
                refine lv_iconst (v := 4) hx hb dX13_readLine_103 (by decide) ?_
                have hl277 : (4 : Int32).toInt = 4 := by decide
                refine hp_callq (hp_runV (As := [.int (4)]) (rest := []) hx hb hml hown hts (t_X13_wrong l D cs B G  V58 n hP.1 q hR (mo) h_mo (4) ho64  (by omega) (by omega) (by omega) (by omega) (by omega) (by omega) (by omega) (by omega) ) hZ ho64 cv_X13_107 rfl rfl ⟨Nat.le_of_ble_eq_true rfl, Nat.le_of_ble_eq_true rfl⟩ rfl hl.1 rfl (Nat.le_of_ble_eq_true rfl) dX13_readLine_104 ⟨(Nat.le_of_ble_eq_true rfl), (Nat.le_of_ble_eq_true rfl)⟩) hZ (fun r271 V268 n269 _ _ hw270 hZ => ?_)
                obtain ⟨rfl, hq272, ⟨z274, z275, ho276⟩, hr273⟩ := hw270
                have hP := hP.trans hq272 (by intro g h; simp_all)
                have b278 := hq_rng z274
                have b279 := hq_rng z275
                subst hr273
                refine W.eq (g2 := F0 m 107 ls [.ref (q + 19)]) rfl ?_
                have fx280 : V268 (q + 10) = some (.inl (cs 1, 120, .inl (g2))) := (hq272.2 (q + 10) _ (hr_10 hR) rfl).trans ((hq62.2 (q + 10) _ (hr_10 hR) rfl).trans ((hq53.2 (q + 10) _ (hr_10 hR) rfl).trans ((hq44.2 (q + 10) _ (hr_10 hR) rfl).trans ((hq35.2 (q + 10) _ (hr_10 hR) rfl).trans ((hq26.2 (q + 10) _ (hr_10 hR) rfl).trans ((hq17.2 (q + 10) _ (hr_10 hR) rfl).trans (eV1)))))))
                have fx281 : V268 (q + 14) = some (.inl (cs 1, 120, .inl (g6))) := (hq272.2 (q + 14) _ (hr_14 hR) rfl).trans ((hq62.2 (q + 14) _ (hr_14 hR) rfl).trans ((hq53.2 (q + 14) _ (hr_14 hR) rfl).trans ((hq44.2 (q + 14) _ (hr_14 hR) rfl).trans ((hq35.2 (q + 14) _ (hr_14 hR) rfl).trans ((hq26.2 (q + 14) _ (hr_14 hR) rfl).trans ((hq17.2 (q + 14) _ (hr_14 hR) rfl).trans (eV5)))))))
                have fx282 : V268 (q + 2) = some (.inl (cs 1, 2, .inl (g10))) := (hq272.2 (q + 2) _ (hr_2 hR) rfl).trans (fx84)
                exact hq_athrow hx hb hnx hlocks hZ ⟨rfl, rfl, hP, ⟨m_fr, m_bh, m_hd, z274, z275, ho276, by assumption⟩, (hm_JH.of eV1 eV5 eV9 fx280 fx281 fx282 (fun j hj => rfl) (fun j hj => rfl) rfl (hq_rg hI (hr_2 hR) eV9 0 (by decide)).2)⟩ dX13_readLine_107
          · have c57 : ¬ (r52).toInt = (0 : Int) := fun h9 => c57 (hq_eqi.mpr h9)
            refine lv_iconst (v := 4) hx hb dX13_readLine_61 (by decide) ?_
            refine lv_goto (tgt := 79) hx hb dX13_readLine_62 (by decide) ?_
            refine lv_istore_n (lv' := [(1, .int (4)), (0, .ref (mo))]) hx hb dX13_readLine_79 rfl hl (by decide) rfl (fun ls hl => ?_)
            refine lv_iload_n hx hb dX13_readLine_80 rfl (lv_at hl 0 rfl) ?_
            refine lv_iconst (v := -1) hx hb dX13_readLine_81 (by decide) ?_
            refine lv_icmp_ne (tgt := 91) hx hb dX13_readLine_82 (by decide) (fun c283 => ?_) (fun c283 => absurd c283 (by decide))
            refine lv_aload_n hx hb dX13_readLine_91 rfl (lv_at hl 1 rfl) ?_
            refine hp_get (v := .ref (q + 2)) hx hb hts hown hZ ho55 fl_X13_10 rfl dX13_readLine_92 ?_
            refine lv_iconst (v := 1) hx hb dX13_readLine_95 (by decide) ?_
            have fx284 : V49 (q + 2) = some (.inl (cs 1, 2, .inl (g10))) := (hq53.2 (q + 2) _ (hr_2 hR) rfl).trans ((hq44.2 (q + 2) _ (hr_2 hR) rfl).trans ((hq35.2 (q + 2) _ (hr_2 hR) rfl).trans ((hq26.2 (q + 2) _ (hr_2 hR) rfl).trans ((hq17.2 (q + 2) _ (hr_2 hR) rfl).trans (eV9)))))
            refine hp_iald hx hb hZ fx284 (by unfold vp_in; decide) dX13_readLine_96 ?_
            refine lv_topi (fun y285 ey286 => ?_)
            have b288 : (y285).toInt = ((g10) (1 : Int32).toNatClampNeg).toInt := by rw [ey286]
            have b287 : hq_ir (hq_lo 8) (hq_hi 8) y285 := by rw [ey286]; exact hf12 _ (by decide)
            have b287 : 0 ≤ (y285).toInt ∧ (y285).toInt ≤ 60 := b287
            refine lv_bipush (v := 60) hx hb dX13_readLine_97 (by decide) ?_
            refine lv_icmp_ne (tgt := 108) hx hb dX13_readLine_99 (by decide) (fun c289 => ?_) (fun c289 => ?_)
            · have c289 : ¬ (y285).toInt = (60 : Int) := fun h9 => c289 (hq_eqi.mpr h9)
              refine lv_bipush (v := 60) hx hb dX13_readLine_108 (by decide) ?_
              refine lv_aload_n hx hb dX13_readLine_110 rfl (lv_at hl 1 rfl) ?_
              refine hp_get (v := .ref (q + 2)) hx hb hts hown hZ ho55 fl_X13_10 rfl dX13_readLine_111 ?_
              refine lv_iconst (v := 1) hx hb dX13_readLine_114 (by decide) ?_
              refine hp_iald hx hb hZ fx284 (by unfold vp_in; decide) dX13_readLine_115 ?_
              refine lv_topi (fun y290 ey291 => ?_)
              have b293 : (y290).toInt = ((g10) (1 : Int32).toNatClampNeg).toInt := by rw [ey291]
              have b292 : hq_ir (hq_lo 8) (hq_hi 8) y290 := by rw [ey291]; exact hf12 _ (by decide)
              have b292 : 0 ≤ (y290).toInt ∧ (y290).toInt ≤ 60 := b292
              refine lv_iadd hx hb dX13_readLine_116 ?_
              refine lv_topi (fun y294 ey295 => ?_)
              obtain ⟨k296, hk297, b298, b299⟩ := hq_add (60) (y290)
              rw [← ey295] at hk297 b298 b299
              have hk297 : (y294).toInt = (60 : Int) + (y290).toInt + k296 * 4294967296 := hk297
              obtain rfl : k296 = 0 := by omega
              refine lv_istore_n (lv' := [(2, .int (y294)), (1, .int (4)), (0, .ref (mo))]) hx hb dX13_readLine_117 rfl hl (by decide) rfl (fun ls hl => ?_)
              refine lv_aload_n hx hb dX13_readLine_118 rfl (lv_at hl 2 rfl) ?_
              refine hp_get (v := .ref (q + 10)) hx hb hts hown hZ ho55 fl_X13_29 rfl dX13_readLine_119 ?_
              refine lv_iload_n hx hb dX13_readLine_122 rfl (lv_at hl 0 rfl) ?_
              refine lv_iload_n hx hb dX13_readLine_123 rfl (lv_at hl 1 rfl) ?_
              have fx300 : V49 (q + 10) = some (.inl (cs 1, 120, .inl (g2))) := (hq53.2 (q + 10) _ (hr_10 hR) rfl).trans ((hq44.2 (q + 10) _ (hr_10 hR) rfl).trans ((hq35.2 (q + 10) _ (hr_10 hR) rfl).trans ((hq26.2 (q + 10) _ (hr_10 hR) rfl).trans ((hq17.2 (q + 10) _ (hr_10 hR) rfl).trans (eV1)))))
              refine hp_iast hx hb hZ fx300 (hq_in (by omega) (by omega)) dX13_readLine_124 (fun V301 _ _ e302 o303 hZ => ?_)
              have e302 : V301 (q + 10) = some (.inl (cs 1, 120, .inl (upd (g2) ((y294 : Int32).toNatClampNeg) (4)))) := e302
              have hl304 : (4 : Int32).toInt = 4 := by decide
              have hP := hP.put (hr_10 hR) e302 o303 (hq_c21 (by omega) (hq_upd hf4 (hq_rng _))) rfl
              obtain ⟨g305, ge306⟩ : ∃ g9 : Nat → Int32, g9 = upd (g2) ((y294 : Int32).toNatClampNeg) (4) := ⟨_, rfl⟩
              have fx308 : V301 (q + 10) = some (.inl (cs 1, 120, .inl (g305))) := by rw [ge306]; exact e302
              have hf307 := hq_rg hP.1 (hr_10 hR) fx308
              have b309 : (g305 (y294 : Int32).toNatClampNeg).toInt = (4 : Int32).toInt := congrArg Int32.toInt ((congrFun ge306 _).trans hm_ue)
              have b310 : (4 : Int32).toInt = 4 := by decide
              refine lv_aload_n hx hb dX13_readLine_125 rfl (lv_at hl 2 rfl) ?_
              have fx311 : V301 (mo) = some (.inr (13, hm_o q (m_tp) (m_sz) (m_fr) (m_bh) (m_hd) (m_ft) (m_fa) (m_le) (m_fo) (m_as) (m_fd) (m_bc) (m_bg) (m_bs) (m_be) (m_b0) (m_b1) (m_cm) (m_hc))) := (o303 (mo) (hq_tne h_mo (hr_10 hR) (by simp))).trans (ho55)
              refine hp_get (v := .ref (q + 11)) hx hb hts hown hZ fx311 fl_X13_32 rfl dX13_readLine_126 ?_
              refine lv_iload_n hx hb dX13_readLine_129 rfl (lv_at hl 0 rfl) ?_
              refine lv_iconst (v := -1) hx hb dX13_readLine_130 (by decide) ?_
              obtain ⟨hN314, g313, eV312, hf315⟩ := hq_o21 hP.1 (hr_11 hR)
              refine hp_iast hx hb hZ eV312 (hq_in (by omega) (by omega)) dX13_readLine_131 (fun V316 _ _ e317 o318 hZ => ?_)
              have e317 : V316 (q + 11) = some (.inl (cs 1, 120, .inl (upd (g313) ((y294 : Int32).toNatClampNeg) (-1)))) := e317
              have hl319 : (-1 : Int32).toInt = -1 := by decide
              have hP := hP.put (hr_11 hR) e317 o318 (hq_c21 (by omega) (hq_upd hf315 (hq_rng _))) rfl
              refine lv_aload_n hx hb dX13_readLine_132 rfl (lv_at hl 2 rfl) ?_
              have fx320 : V316 (mo) = some (.inr (13, hm_o q (m_tp) (m_sz) (m_fr) (m_bh) (m_hd) (m_ft) (m_fa) (m_le) (m_fo) (m_as) (m_fd) (m_bc) (m_bg) (m_bs) (m_be) (m_b0) (m_b1) (m_cm) (m_hc))) := (o318 (mo) (hq_tne h_mo (hr_11 hR) (by simp))).trans (fx311)
              refine hp_get (v := .ref (q + 12)) hx hb hts hown hZ fx320 fl_X13_35 rfl dX13_readLine_133 ?_
              refine lv_iload_n hx hb dX13_readLine_136 rfl (lv_at hl 0 rfl) ?_
              refine lv_iconst (v := -1) hx hb dX13_readLine_137 (by decide) ?_
              obtain ⟨hN323, g322, eV321, hf324⟩ := hq_o21 hP.1 (hr_12 hR)
              refine hp_iast hx hb hZ eV321 (hq_in (by omega) (by omega)) dX13_readLine_138 (fun V325 _ _ e326 o327 hZ => ?_)
              have e326 : V325 (q + 12) = some (.inl (cs 1, 120, .inl (upd (g322) ((y294 : Int32).toNatClampNeg) (-1)))) := e326
              have hl328 : (-1 : Int32).toInt = -1 := by decide
              have hP := hP.put (hr_12 hR) e326 o327 (hq_c21 (by omega) (hq_upd hf324 (hq_rng _))) rfl
              refine lv_aload_n hx hb dX13_readLine_139 rfl (lv_at hl 2 rfl) ?_
              have fx329 : V325 (mo) = some (.inr (13, hm_o q (m_tp) (m_sz) (m_fr) (m_bh) (m_hd) (m_ft) (m_fa) (m_le) (m_fo) (m_as) (m_fd) (m_bc) (m_bg) (m_bs) (m_be) (m_b0) (m_b1) (m_cm) (m_hc))) := (o327 (mo) (hq_tne h_mo (hr_12 hR) (by simp))).trans (fx320)
              refine hp_get (v := .ref (q + 13)) hx hb hts hown hZ fx329 fl_X13_38 rfl dX13_readLine_140 ?_
              refine lv_iload_n hx hb dX13_readLine_143 rfl (lv_at hl 0 rfl) ?_
              refine lv_iconst (v := -1) hx hb dX13_readLine_144 (by decide) ?_
              obtain ⟨hN332, g331, eV330, hf333⟩ := hq_o21 hP.1 (hr_13 hR)
              refine hp_iast hx hb hZ eV330 (hq_in (by omega) (by omega)) dX13_readLine_145 (fun V334 _ _ e335 o336 hZ => ?_)
              have e335 : V334 (q + 13) = some (.inl (cs 1, 120, .inl (upd (g331) ((y294 : Int32).toNatClampNeg) (-1)))) := e335
              have hl337 : (-1 : Int32).toInt = -1 := by decide
              have hP := hP.put (hr_13 hR) e335 o336 (hq_c21 (by omega) (hq_upd hf333 (hq_rng _))) rfl
              refine lv_aload_n hx hb dX13_readLine_146 rfl (lv_at hl 2 rfl) ?_
              have fx338 : V334 (mo) = some (.inr (13, hm_o q (m_tp) (m_sz) (m_fr) (m_bh) (m_hd) (m_ft) (m_fa) (m_le) (m_fo) (m_as) (m_fd) (m_bc) (m_bg) (m_bs) (m_be) (m_b0) (m_b1) (m_cm) (m_hc))) := (o336 (mo) (hq_tne h_mo (hr_13 hR) (by simp))).trans (fx329)
              refine hp_get (v := .ref (q + 14)) hx hb hts hown hZ fx338 fl_X13_41 rfl dX13_readLine_147 ?_
              refine lv_iload_n hx hb dX13_readLine_150 rfl (lv_at hl 0 rfl) ?_
              refine lv_iconst (v := 0) hx hb dX13_readLine_151 (by decide) ?_
              have fx339 : V334 (q + 14) = some (.inl (cs 1, 120, .inl (g6))) := (o336 (q + 14) (hq_ne q 14 13 (by decide))).trans ((o327 (q + 14) (hq_ne q 14 12 (by decide))).trans ((o318 (q + 14) (hq_ne q 14 11 (by decide))).trans ((o303 (q + 14) (hq_ne q 14 10 (by decide))).trans ((hq53.2 (q + 14) _ (hr_14 hR) rfl).trans ((hq44.2 (q + 14) _ (hr_14 hR) rfl).trans ((hq35.2 (q + 14) _ (hr_14 hR) rfl).trans ((hq26.2 (q + 14) _ (hr_14 hR) rfl).trans ((hq17.2 (q + 14) _ (hr_14 hR) rfl).trans (eV5)))))))))
              refine hp_iast hx hb hZ fx339 (hq_in (by omega) (by omega)) dX13_readLine_152 (fun V340 _ _ e341 o342 hZ => ?_)
              have e341 : V340 (q + 14) = some (.inl (cs 1, 120, .inl (upd (g6) ((y294 : Int32).toNatClampNeg) (0)))) := e341
              have hl343 : (0 : Int32).toInt = 0 := by decide
              have hP := hP.put (hr_14 hR) e341 o342 (hq_c21 (by omega) (hq_upd hf8 (show 0 ≤ _ ∧ _ ≤ 8 by constructor <;> omega))) rfl
              obtain ⟨g344, ge345⟩ : ∃ g9 : Nat → Int32, g9 = upd (g6) ((y294 : Int32).toNatClampNeg) (0) := ⟨_, rfl⟩
              have fx347 : V340 (q + 14) = some (.inl (cs 1, 120, .inl (g344))) := by rw [ge345]; exact e341
              have hf346 := hq_rg hP.1 (hr_14 hR) fx347
              have b348 : (g344 (y294 : Int32).toNatClampNeg).toInt = (0 : Int32).toInt := congrArg Int32.toInt ((congrFun ge345 _).trans hm_ue)
              have b349 : (0 : Int32).toInt = 0 := by decide
              refine lv_aload_n hx hb dX13_readLine_153 rfl (lv_at hl 2 rfl) ?_
              have fx350 : V340 (mo) = some (.inr (13, hm_o q (m_tp) (m_sz) (m_fr) (m_bh) (m_hd) (m_ft) (m_fa) (m_le) (m_fo) (m_as) (m_fd) (m_bc) (m_bg) (m_bs) (m_be) (m_b0) (m_b1) (m_cm) (m_hc))) := (o342 (mo) (hq_tne h_mo (hr_14 hR) (by simp))).trans (fx338)
              refine hp_get (v := .ref (q + 15)) hx hb hts hown hZ fx350 fl_X13_44 rfl dX13_readLine_154 ?_
              refine lv_iload_n hx hb dX13_readLine_157 rfl (lv_at hl 0 rfl) ?_
              refine lv_iconst (v := 0) hx hb dX13_readLine_158 (by decide) ?_
              obtain ⟨hN353, g352, eV351, hf354⟩ := hq_o21 hP.1 (hr_15 hR)
              refine hp_iast hx hb hZ eV351 (hq_in (by omega) (by omega)) dX13_readLine_159 (fun V355 _ _ e356 o357 hZ => ?_)
              have e356 : V355 (q + 15) = some (.inl (cs 1, 120, .inl (upd (g352) ((y294 : Int32).toNatClampNeg) (0)))) := e356
              have hl358 : (0 : Int32).toInt = 0 := by decide
              have hP := hP.put (hr_15 hR) e356 o357 (hq_c21 (by omega) (hq_upd hf354 (show 0 ≤ _ ∧ _ ≤ 8 by constructor <;> omega))) rfl
              refine lv_aload_n hx hb dX13_readLine_160 rfl (lv_at hl 2 rfl) ?_
              have fx359 : V355 (mo) = some (.inr (13, hm_o q (m_tp) (m_sz) (m_fr) (m_bh) (m_hd) (m_ft) (m_fa) (m_le) (m_fo) (m_as) (m_fd) (m_bc) (m_bg) (m_bs) (m_be) (m_b0) (m_b1) (m_cm) (m_hc))) := (o357 (mo) (hq_tne h_mo (hr_15 hR) (by simp))).trans (fx350)
              refine hp_get (v := .ref (q + 16)) hx hb hts hown hZ fx359 fl_X13_47 rfl dX13_readLine_161 ?_
              refine lv_iload_n hx hb dX13_readLine_164 rfl (lv_at hl 0 rfl) ?_
              refine lv_iconst (v := 0) hx hb dX13_readLine_165 (by decide) ?_
              obtain ⟨hN362, g361, eV360, hf363⟩ := hq_o21 hP.1 (hr_16 hR)
              refine hp_iast hx hb hZ eV360 (hq_in (by omega) (by omega)) dX13_readLine_166 (fun V364 _ _ e365 o366 hZ => ?_)
              have e365 : V364 (q + 16) = some (.inl (cs 1, 120, .inl (upd (g361) ((y294 : Int32).toNatClampNeg) (0)))) := e365
              have hl367 : (0 : Int32).toInt = 0 := by decide
              have hP := hP.put (hr_16 hR) e365 o366 (hq_c21 (by omega) (hq_upd hf363 (show 0 ≤ _ ∧ _ ≤ 29 by constructor <;> omega))) rfl
              refine lv_aload_n hx hb dX13_readLine_167 rfl (lv_at hl 2 rfl) ?_
              have fx374 : V364 (mo) = some (.inr (13, hm_o q (m_tp) (m_sz) (m_fr) (m_bh) (m_hd) (m_ft) (m_fa) (m_le) (m_fo) (m_as) (m_fd) (m_bc) (m_bg) (m_bs) (m_be) (m_b0) (m_b1) (m_cm) (m_hc))) := (o366 (mo) (hq_tne h_mo (hr_16 hR) (by simp))).trans (fx359)
              refine hp_callv (hp_runV (As := []) (rest := []) hx hb hml hown hts (t_X13_scan l D cs B G  V364 n hP.1 q hR (mo) h_mo fx374  (by omega) (by omega) (by omega) (by omega) (by omega) (by omega) (by omega) (by omega) (hm_SC.s0 (by assumption)) (hm_SC.s1 (by assumption) (by first | omega | (have h8 := hm_Is.hd (by assumption) (by omega); omega)))) hZ fx374 cv_X13_111 rfl rfl ⟨Nat.le_of_ble_eq_true rfl, Nat.le_of_ble_eq_true rfl⟩ rfl hl.1 rfl (Nat.le_of_ble_eq_true rfl) dX13_readLine_168 ⟨(Nat.le_of_ble_eq_true rfl), (Nat.le_of_ble_eq_true rfl)⟩) hZ (fun V368 n369 _ _ hw370 hZ => ?_)
              obtain ⟨rfl, hq372, ⟨z375, z376, z377, ho378, hi379⟩⟩ := hw370
              have hP := hP.trans hq372 (by intro g h; simp_all)
              have b380 := hq_rng z375
              have b381 := hq_rng z376
              have b382 := hq_rng z377
              refine lv_iload_n hx hb dX13_readLine_171 rfl (lv_at hl 1 rfl) ?_
              refine lv_iconst (v := 4) hx hb dX13_readLine_172 (by decide) ?_
              refine lv_icmp_eq (tgt := 181) hx hb dX13_readLine_173 (by decide) (fun c383 => ?_) (fun c383 => absurd (by decide) c383)
              refine lv_aload_n hx hb dX13_readLine_181 rfl (lv_at hl 2 rfl) ?_
              refine hp_get (v := .ref (q + 11)) hx hb hts hown hZ ho378 fl_X13_32 rfl dX13_readLine_182 ?_
              refine lv_iload_n hx hb dX13_readLine_185 rfl (lv_at hl 0 rfl) ?_
              refine lv_aload_n hx hb dX13_readLine_186 rfl (lv_at hl 2 rfl) ?_
              have fx397 : V368 (q + 10) = some (.inl (cs 1, 120, .inl (g305))) := (hq372.2 (q + 10) _ (hr_10 hR) rfl).trans ((o366 (q + 10) (hq_ne q 10 16 (by decide))).trans ((o357 (q + 10) (hq_ne q 10 15 (by decide))).trans ((o342 (q + 10) (hq_ne q 10 14 (by decide))).trans ((o336 (q + 10) (hq_ne q 10 13 (by decide))).trans ((o327 (q + 10) (hq_ne q 10 12 (by decide))).trans ((o318 (q + 10) (hq_ne q 10 11 (by decide))).trans (fx308)))))))
              have fx398 : V368 (q + 14) = some (.inl (cs 1, 120, .inl (g344))) := (hq372.2 (q + 14) _ (hr_14 hR) rfl).trans ((o366 (q + 14) (hq_ne q 14 16 (by decide))).trans ((o357 (q + 14) (hq_ne q 14 15 (by decide))).trans (fx347)))
              have fx399 : V368 (q + 2) = some (.inl (cs 1, 2, .inl (g10))) := (hq372.2 (q + 2) _ (hr_2 hR) rfl).trans ((o366 (q + 2) (hq_ne q 2 16 (by decide))).trans ((o357 (q + 2) (hq_ne q 2 15 (by decide))).trans ((o342 (q + 2) (hq_ne q 2 14 (by decide))).trans ((o336 (q + 2) (hq_ne q 2 13 (by decide))).trans ((o327 (q + 2) (hq_ne q 2 12 (by decide))).trans ((o318 (q + 2) (hq_ne q 2 11 (by decide))).trans ((o303 (q + 2) (hq_ne q 2 10 (by decide))).trans (fx284))))))))
              refine hq_callx (hq_runV (As := []) (rest := [.int (y294), .ref (q + 11)]) hx hb hml hown hts (t_X13_takeVerb l D cs B G  V368 n hP.1 q hR (mo) h_mo ho378  (by omega) (by omega) (by omega) (by omega) (by omega) (by omega) (by omega) (by omega) (by assumption) ) hZ ho378 cv_X13_182 rfl rfl ⟨Nat.le_of_ble_eq_true rfl, Nat.le_of_ble_eq_true rfl⟩ rfl hl.1 rfl (Nat.le_of_ble_eq_true rfl) dX13_readLine_187 ⟨(Nat.le_of_ble_eq_true rfl), (Nat.le_of_ble_eq_true rfl)⟩) hZ hnx hlocks (by rintro x9 V9 n9 ⟨rfl, rfl, hq9, ⟨z390x, z391x, z392x, z393x, z394x, hox0, hix00⟩⟩; have hbxz390 := hq_rng z390x; have hbxz391 := hq_rng z391x; have hbxz392 := hq_rng z392x; have hbxz393 := hq_rng z393x; have hbxz394 := hq_rng z394x; exact ⟨rfl, rfl, hP.trans hq9 (by intro g h; simp_all), ⟨z390x, z391x, z392x, z393x, z394x, hox0, by assumption⟩, ((hm_JH.of eV1 eV5 eV9 fx397 fx398 fx399 (fun j hj => (congrFun ge306 j).trans (hm_ub (by omega) hj)) (fun j hj => (congrFun ge345 j).trans (hm_ub (by omega) hj)) rfl (hq_rg hI (hr_2 hR) eV9 0 (by decide)).2)).keep hR (fun x t hx hg => hq9.2 x t hx (by simp [hg]))⟩) (fun v9 V384 n385 _ _ hw386 hZ => ?_)
              obtain ⟨r387, rfl, rfl, hq388, ⟨z390, z391, z392, z393, z394, ho395, hi396⟩, hr389⟩ := hw386
              refine W.eq (g2 := F0 m 190 ls [.int (r387), .int (y294), .ref (q + 11)]) rfl ?_
              have hP := hP.trans hq388 (by intro g h; simp_all)
              have b400 := hq_rng z390
              have b401 := hq_rng z391
              have b402 := hq_rng z392
              have b403 := hq_rng z393
              have b404 := hq_rng z394
              have b405 := hq_rng r387
              obtain ⟨hN408, g407, eV406, hf409⟩ := hq_o21 hP.1 (hr_11 hR)
              refine hp_iast hx hb hZ eV406 (hq_in (by omega) (by omega)) dX13_readLine_190 (fun V410 _ _ e411 o412 hZ => ?_)
              have e411 : V410 (q + 11) = some (.inl (cs 1, 120, .inl (upd (g407) ((y294 : Int32).toNatClampNeg) (r387)))) := e411
              have hP := hP.put (hr_11 hR) e411 o412 (hq_c21 (by omega) (hq_upd hf409 (hq_rng _))) rfl
              refine lv_goto (tgt := 204) hx hb dX13_readLine_191 (by decide) ?_
              refine lv_iload_n hx hb dX13_readLine_204 rfl (lv_at hl 1 rfl) ?_
              refine lv_iconst (v := 2) hx hb dX13_readLine_205 (by decide) ?_
              refine lv_icmp_eq (tgt := 219) hx hb dX13_readLine_206 (by decide) (fun c413 => absurd c413 (by decide)) (fun c413 => ?_)
              refine lv_iload_n hx hb dX13_readLine_209 rfl (lv_at hl 1 rfl) ?_
              refine lv_iconst (v := 3) hx hb dX13_readLine_210 (by decide) ?_
              refine lv_icmp_eq (tgt := 219) hx hb dX13_readLine_211 (by decide) (fun c414 => absurd c414 (by decide)) (fun c414 => ?_)
              refine lv_aload_n hx hb dX13_readLine_214 rfl (lv_at hl 2 rfl) ?_
              refine lv_iload_n hx hb dX13_readLine_215 rfl (lv_at hl 0 rfl) ?_
              have fx421 : V410 (mo) = some (.inr (13, hm_o q (m_tp) (m_sz) (z390) (z391) (z392) (z393) (z394) (m_le) (m_fo) (m_as) (m_fd) (m_bc) (m_bg) (m_bs) (m_be) (m_b0) (m_b1) (m_cm) (m_hc))) := (o412 (mo) (hq_tne h_mo (hr_11 hR) (by simp))).trans (ho395)
              have fx429 : V410 (q + 10) = some (.inl (cs 1, 120, .inl (g305))) := (o412 (q + 10) (hq_ne q 10 11 (by decide))).trans ((hq388.2 (q + 10) _ (hr_10 hR) rfl).trans (fx397))
              have fx430 : V410 (q + 14) = some (.inl (cs 1, 120, .inl (g344))) := (o412 (q + 14) (hq_ne q 14 11 (by decide))).trans ((hq388.2 (q + 14) _ (hr_14 hR) rfl).trans (fx398))
              have fx431 : V410 (q + 2) = some (.inl (cs 1, 2, .inl (g10))) := (o412 (q + 2) (hq_ne q 2 11 (by decide))).trans ((hq388.2 (q + 2) _ (hr_2 hR) rfl).trans (fx399))
              refine hq_callx (hq_runV (As := [.int (y294)]) (rest := []) hx hb hml hown hts (t_X13_readSlot l D cs B G  V410 n hP.1 q hR (mo) h_mo (y294) fx421  (by omega) (by omega) (by omega) (by omega) (by omega) (by omega) (by omega) (by omega) (by assumption) (by omega) (by omega)) hZ fx421 cv_X13_189 rfl rfl ⟨Nat.le_of_ble_eq_true rfl, Nat.le_of_ble_eq_true rfl⟩ rfl hl.1 rfl (Nat.le_of_ble_eq_true rfl) dX13_readLine_216 ⟨(Nat.le_of_ble_eq_true rfl), (Nat.le_of_ble_eq_true rfl)⟩) hZ hnx hlocks (by rintro x9 V9 n9 ⟨rfl, rfl, hq9, ⟨z422x, z423x, z424x, z425x, z426x, hox0, hix00⟩⟩; have hbxz422 := hq_rng z422x; have hbxz423 := hq_rng z423x; have hbxz424 := hq_rng z424x; have hbxz425 := hq_rng z425x; have hbxz426 := hq_rng z426x; exact ⟨rfl, rfl, hP.trans hq9 (by intro g h; simp_all), ⟨z422x, z423x, z424x, z425x, z426x, hox0, by assumption⟩, ((hm_JH.of eV1 eV5 eV9 fx429 fx430 fx431 (fun j hj => (congrFun ge306 j).trans (hm_ub (by omega) hj)) (fun j hj => (congrFun ge345 j).trans (hm_ub (by omega) hj)) rfl (hq_rg hI (hr_2 hR) eV9 0 (by decide)).2)).keep hR (fun x t hx hg => hq9.2 x t hx (by simp [hg]))⟩) (fun v9 V415 n416 _ _ hw417 hZ => ?_)
              obtain ⟨rfl, rfl, hq419, ⟨z422, z423, z424, z425, z426, ho427, hi428⟩⟩ := hw417
              refine W.eq (g2 := F0 m 219 ls []) rfl ?_
              have hP := hP.trans hq419 (by intro g h; simp_all)
              have b432 := hq_rng z422
              have b433 := hq_rng z423
              have b434 := hq_rng z424
              have b435 := hq_rng z425
              have b436 := hq_rng z426
              refine lv_iload_n hx hb dX13_readLine_219 rfl (lv_at hl 1 rfl) ?_
              refine lv_iconst (v := 3) hx hb dX13_readLine_220 (by decide) ?_
              refine lv_icmp_ne (tgt := 229) hx hb dX13_readLine_221 (by decide) (fun c437 => ?_) (fun c437 => absurd c437 (by decide))
              refine lv_iload_n hx hb dX13_readLine_229 rfl (lv_at hl 1 rfl) ?_
              refine lv_if_eq (tgt := 248) hx hb dX13_readLine_230 (by decide) (fun c438 => absurd c438 (by decide)) (fun c438 => ?_)
              refine lv_iload_n hx hb dX13_readLine_233 rfl (lv_at hl 1 rfl) ?_
              refine lv_iconst (v := 1) hx hb dX13_readLine_234 (by decide) ?_
              refine lv_icmp_eq (tgt := 248) hx hb dX13_readLine_235 (by decide) (fun c439 => absurd c439 (by decide)) (fun c439 => ?_)
              refine lv_iload_n hx hb dX13_readLine_238 rfl (lv_at hl 1 rfl) ?_
              refine lv_iconst (v := 2) hx hb dX13_readLine_239 (by decide) ?_
              refine lv_icmp_eq (tgt := 248) hx hb dX13_readLine_240 (by decide) (fun c440 => absurd c440 (by decide)) (fun c440 => ?_)
              refine lv_iload_n hx hb dX13_readLine_243 rfl (lv_at hl 1 rfl) ?_
              refine lv_iconst (v := 4) hx hb dX13_readLine_244 (by decide) ?_
              refine lv_icmp_ne (tgt := 321) hx hb dX13_readLine_245 (by decide) (fun c441 => absurd (by decide) c441) (fun c441 => ?_)
              refine lv_aload_n hx hb dX13_readLine_248 rfl (lv_at hl 2 rfl) ?_
              refine hp_get (v := .int (z424)) hx hb hts hown hZ ho427 fl_X13_83 rfl dX13_readLine_249 ?_
              refine lv_iconst (v := 3) hx hb dX13_readLine_252 (by decide) ?_
              refine lv_icmp_eq (tgt := 262) hx hb dX13_readLine_253 (by decide) (fun c442 => ?_) (fun c442 => ?_)
              · have c442 : (z424).toInt = (3 : Int) := hq_eqi.mp c442
                refine lv_iload_n hx hb dX13_readLine_262 rfl (lv_at hl 1 rfl) ?_
                refine lv_iconst (v := 4) hx hb dX13_readLine_263 (by decide) ?_
                refine lv_icmp_ne (tgt := 282) hx hb dX13_readLine_264 (by decide) (fun c443 => absurd (by decide) c443) (fun c443 => ?_)
                refine lv_aload_n hx hb dX13_readLine_267 rfl (lv_at hl 2 rfl) ?_
                refine lv_iload_n hx hb dX13_readLine_268 rfl (lv_at hl 0 rfl) ?_
                refine hp_calli (hp_runV (As := [.int (y294)]) (rest := []) hx hb hml hown hts (t_X13_alike l D cs B G  V415 n hP.1 q hR (mo) h_mo (y294) ho427  (by omega) (by omega) (by omega) (by omega) (by omega) (by omega) (by omega) (by omega) (by assumption) (by omega) (by omega)) hZ ho427 cv_X13_195 rfl rfl ⟨Nat.le_of_ble_eq_true rfl, Nat.le_of_ble_eq_true rfl⟩ rfl hl.1 rfl (Nat.le_of_ble_eq_true rfl) dX13_readLine_269 ⟨(Nat.le_of_ble_eq_true rfl), (Nat.le_of_ble_eq_true rfl)⟩) hZ (fun r447 V444 n445 _ _ hw446 hZ => ?_)
                obtain ⟨rfl, hq448, ho450, hr449⟩ := hw446
                have hP := hP.trans hq448 (fun _ _ => rfl)
                have b451 := hq_rng r447
                refine lv_iconst (v := 2) hx hb dX13_readLine_272 (by decide) ?_
                refine lv_icmp_lt (tgt := 282) hx hb dX13_readLine_273 (by decide) (fun c452 => ?_) (fun c452 => ?_)
                · have c452 : (r447).toInt < (2 : Int) := hq_lti.mp c452
                  refine lv_iload_n hx hb dX13_readLine_282 rfl (lv_at hl 1 rfl) ?_
                  refine lv_iconst (v := 1) hx hb dX13_readLine_283 (by decide) ?_
                  refine lv_icmp_eq (tgt := 306) hx hb dX13_readLine_284 (by decide) (fun c453 => absurd c453 (by decide)) (fun c453 => ?_)
                  have h3b := hm_SC.a3 (by assumption : hm_SC m_sz z422 z423 z424) (by omega)
                  refine lv_aload_n hx hb dX13_readLine_287 rfl (lv_at hl 2 rfl) ?_
                  refine hp_get (v := .int (z423)) hx hb hts hown hZ ho450 fl_X13_76 rfl dX13_readLine_288 ?_
                  refine lv_aload_n hx hb dX13_readLine_291 rfl (lv_at hl 2 rfl) ?_
                  refine hp_get (v := .int (z422)) hx hb hts hown hZ ho450 fl_X13_60 rfl dX13_readLine_292 ?_
                  refine lv_isub hx hb dX13_readLine_295 ?_
                  refine lv_topi (fun y454 ey455 => ?_)
                  obtain ⟨k456, hk457, b458, b459⟩ := hq_sub (z423) (z422)
                  rw [← ey455] at hk457 b458 b459
                  have hk457 : (y454).toInt = (z423).toInt - (z422).toInt + k456 * 4294967296 := hk457
                  obtain rfl : k456 = 0 := by omega
                  refine lv_iconst (v := 2) hx hb dX13_readLine_296 (by decide) ?_
                  refine lv_icmp_ne (tgt := 306) hx hb dX13_readLine_297 (by decide) (fun c460 => ?_) (fun c460 => ?_)
                  · have c460 : ¬ (y454).toInt = (2 : Int) := fun h9 => c460 (hq_eqi.mpr h9)
                    refine lv_aload_n hx hb dX13_readLine_306 rfl (lv_at hl 2 rfl) ?_
                    refine hp_get (v := .ref (q + 14)) hx hb hts hown hZ ho450 fl_X13_41 rfl dX13_readLine_307 ?_
                    refine lv_iload_n hx hb dX13_readLine_310 rfl (lv_at hl 0 rfl) ?_
                    refine lv_aload_n hx hb dX13_readLine_311 rfl (lv_at hl 2 rfl) ?_
                    refine lv_aload_n hx hb dX13_readLine_312 rfl (lv_at hl 2 rfl) ?_
                    refine hp_get (v := .ref (q + 5)) hx hb hts hown hZ ho450 fl_X13_23 rfl dX13_readLine_313 ?_
                    refine lv_iload_n hx hb dX13_readLine_316 rfl (lv_at hl 0 rfl) ?_
                    have h3a := hm_SC.a3 (by assumption : hm_SC m_sz z422 z423 z424) (by omega)
                    refine hp_calli (hp_runV (As := [.ref (q + 5), .int (y294)]) (rest := [.int (y294), .ref (q + 14)]) hx hb hml hown hts (t_X13_takeLetters l D cs B G  V444 n hP.1 q hR (mo) h_mo (q + 5) (hr_5 hR) (y294) ho450  (by omega) (by omega) (by omega) (by omega) (by omega) (by omega) (by omega) (by omega) (by assumption) (by omega) (by omega) (by omega)) hZ ho450 cv_X13_198 rfl rfl ⟨Nat.le_of_ble_eq_true rfl, Nat.le_of_ble_eq_true rfl⟩ rfl hl.1 rfl (Nat.le_of_ble_eq_true rfl) dX13_readLine_317 ⟨(Nat.le_of_ble_eq_true rfl), (Nat.le_of_ble_eq_true rfl)⟩) hZ (fun r464 V461 n462 _ _ hw463 hZ => ?_)
                    obtain ⟨rfl, hq465, ⟨z467, z468, z469, ho470, hi471⟩, hr466⟩ := hw463
                    have hP := hP.trans hq465 (by intro g h; simp_all)
                    have b472 := hq_rng z467
                    have b473 := hq_rng z468
                    have b474 := hq_rng z469
                    have b475 := hq_rng r464
                    have fx476 : V461 (q + 14) = some (.inl (cs 1, 120, .inl (g344))) := (hq465.2 (q + 14) _ (hr_14 hR) rfl).trans ((hq448.2 (q + 14) _ (hr_14 hR) rfl).trans ((hq419.2 (q + 14) _ (hr_14 hR) rfl).trans (fx430)))
                    refine hp_iast hx hb hZ fx476 (hq_in (by omega) (by omega)) dX13_readLine_320 (fun V477 _ _ e478 o479 hZ => ?_)
                    have e478 : V477 (q + 14) = some (.inl (cs 1, 120, .inl (upd (g344) ((y294 : Int32).toNatClampNeg) (r464)))) := e478
                    have hP := hP.put (hr_14 hR) e478 o479 (hq_c21 (by omega) (hq_upd hf346 (show 0 ≤ _ ∧ _ ≤ 8 by constructor <;> omega))) rfl
                    obtain ⟨g480, ge481⟩ : ∃ g9 : Nat → Int32, g9 = upd (g344) ((y294 : Int32).toNatClampNeg) (r464) := ⟨_, rfl⟩
                    have fx483 : V477 (q + 14) = some (.inl (cs 1, 120, .inl (g480))) := by rw [ge481]; exact e478
                    have hf482 := hq_rg hP.1 (hr_14 hR) fx483
                    have b484 : (g480 (y294 : Int32).toNatClampNeg).toInt = (r464 : Int32).toInt := congrArg Int32.toInt ((congrFun ge481 _).trans hm_ue)
                    refine lv_iload_n hx hb dX13_readLine_321 rfl (lv_at hl 1 rfl) ?_
                    refine lv_if_eq (tgt := 330) hx hb dX13_readLine_322 (by decide) (fun c485 => absurd c485 (by decide)) (fun c485 => ?_)
                    refine lv_iload_n hx hb dX13_readLine_325 rfl (lv_at hl 1 rfl) ?_
                    refine lv_iconst (v := 2) hx hb dX13_readLine_326 (by decide) ?_
                    refine lv_icmp_ne (tgt := 365) hx hb dX13_readLine_327 (by decide) (fun c486 => ?_) (fun c486 => absurd c486 (by decide))
                    refine lv_iload_n hx hb dX13_readLine_365 rfl (lv_at hl 1 rfl) ?_
                    refine lv_iconst (v := 2) hx hb dX13_readLine_366 (by decide) ?_
                    refine lv_icmp_ne (tgt := 390) hx hb dX13_readLine_367 (by decide) (fun c487 => ?_) (fun c487 => absurd c487 (by decide))
                    refine lv_aload_n hx hb dX13_readLine_390 rfl (lv_at hl 2 rfl) ?_
                    have fx488 : V477 (mo) = some (.inr (13, hm_o q (m_tp) (m_sz) (z467) (z468) (z469) (z425) (z426) (m_le) (m_fo) (m_as) (m_fd) (m_bc) (m_bg) (m_bs) (m_be) (m_b0) (m_b1) (m_cm) (m_hc))) := (o479 (mo) (hq_tne h_mo (hr_14 hR) (by simp))).trans (ho470)
                    refine hp_get (v := .ref (q + 2)) hx hb hts hown hZ fx488 fl_X13_10 rfl dX13_readLine_391 ?_
                    refine lv_iconst (v := 1) hx hb dX13_readLine_394 (by decide) ?_
                    refine lv_dup2_11 hx hb dX13_readLine_395 rfl rfl ?_
                    have fx489 : V477 (q + 2) = some (.inl (cs 1, 2, .inl (g10))) := (o479 (q + 2) (hq_ne q 2 14 (by decide))).trans ((hq465.2 (q + 2) _ (hr_2 hR) rfl).trans ((hq448.2 (q + 2) _ (hr_2 hR) rfl).trans ((hq419.2 (q + 2) _ (hr_2 hR) rfl).trans (fx431))))
                    refine hp_iald hx hb hZ fx489 (by unfold vp_in; decide) dX13_readLine_396 ?_
                    refine lv_topi (fun y490 ey491 => ?_)
                    have b493 : (y490).toInt = ((g10) (1 : Int32).toNatClampNeg).toInt := by rw [ey491]
                    have b492 : hq_ir (hq_lo 8) (hq_hi 8) y490 := by rw [ey491]; exact hf12 _ (by decide)
                    have b492 : 0 ≤ (y490).toInt ∧ (y490).toInt ≤ 60 := b492
                    refine lv_iconst (v := 1) hx hb dX13_readLine_397 (by decide) ?_
                    refine lv_iadd hx hb dX13_readLine_398 ?_
                    refine lv_topi (fun y494 ey495 => ?_)
                    obtain ⟨k496, hk497, b498, b499⟩ := hq_add (y490) (1)
                    rw [← ey495] at hk497 b498 b499
                    have hk497 : (y494).toInt = (y490).toInt + (1 : Int) + k496 * 4294967296 := hk497
                    obtain rfl : k496 = 0 := by omega
                    refine hp_iast hx hb hZ fx489 (by unfold vp_in; decide) dX13_readLine_399 (fun V500 _ _ e501 o502 hZ => ?_)
                    have e501 : V500 (q + 2) = some (.inl (cs 1, 2, .inl (upd (g10) ((1 : Int32).toNatClampNeg) (y494)))) := e501
                    have hP := hP.put (hr_2 hR) e501 o502 (hq_c21 (by omega) (hq_upd hf12 (show 0 ≤ _ ∧ _ ≤ 60 by constructor <;> omega))) rfl
                    obtain ⟨g503, ge504⟩ : ∃ g9 : Nat → Int32, g9 = upd (g10) ((1 : Int32).toNatClampNeg) (y494) := ⟨_, rfl⟩
                    have fx506 : V500 (q + 2) = some (.inl (cs 1, 2, .inl (g503))) := by rw [ge504]; exact e501
                    have hf505 := hq_rg hP.1 (hr_2 hR) fx506
                    have b507 : (g503 (1 : Int32).toNatClampNeg).toInt = (y494 : Int32).toInt := congrArg Int32.toInt ((congrFun ge504 _).trans hm_ue)
                    have fx508 : V500 (mo) = some (.inr (13, hm_o q (m_tp) (m_sz) (z467) (z468) (z469) (z425) (z426) (m_le) (m_fo) (m_as) (m_fd) (m_bc) (m_bg) (m_bs) (m_be) (m_b0) (m_b1) (m_cm) (m_hc))) := (o502 (mo) (hq_tne h_mo (hr_2 hR) (by simp))).trans (fx488)
                    have fx509 : V500 (q + 10) = some (.inl (cs 1, 120, .inl (g305))) := (o502 (q + 10) (hq_ne q 10 2 (by decide))).trans ((o479 (q + 10) (hq_ne q 10 14 (by decide))).trans ((hq465.2 (q + 10) _ (hr_10 hR) rfl).trans ((hq448.2 (q + 10) _ (hr_10 hR) rfl).trans ((hq419.2 (q + 10) _ (hr_10 hR) rfl).trans (fx429)))))
                    have fx510 : V500 (q + 14) = some (.inl (cs 1, 120, .inl (g480))) := (o502 (q + 14) (hq_ne q 14 2 (by decide))).trans (fx483)
                    exact hq_vret hx hb hr hlocks hZ ⟨rfl, rfl, hP, ⟨z467, z468, z469, z425, z426, fx508, by assumption⟩, ⟨(hm_JH.of eV1 eV5 eV9 fx509 fx510 fx506 (fun j hj => (congrFun ge306 j).trans (hm_ub (by omega) hj)) (fun j hj => ((congrFun ge481 j).trans (hm_ub (by omega) hj)).trans ((congrFun ge345 j).trans (hm_ub (by omega) hj))) ((congrFun ge504 0).trans (hm_un (by decide))) (hq_rg hI (hr_2 hR) eV9 0 (by decide)).2), (hm_JJ.of (l := y294) eV1 eV5 eV9 fx509 fx510 fx506 (by omega) (by omega) (fun j hj => (congrFun ge306 j).trans (hm_un hj)) (fun j hj => ((congrFun ge481 j).trans (hm_un hj)).trans ((congrFun ge345 j).trans (hm_un hj))) (by rw [show g503 (1 : Int32).toNatClampNeg = _ from (congrFun ge504 _).trans hm_ue]; omega) (fun h9 => by rw [show g305 y294.toNatClampNeg = 4 from (congrFun ge306 _).trans hm_ue] at h9; exact absurd h9 (by decide)))⟩⟩ dX13_readLine_400
                  · have c460 : (y454).toInt = (2 : Int) := hq_eqi.mp c460
                    refine lv_aload_n hx hb dX13_readLine_300 rfl (lv_at hl 2 rfl) ?_
                    refine lv_iconst (v := 5) hx hb dX13_readLine_301 (by decide) ?_
                    have hl520 : (5 : Int32).toInt = 5 := by decide
                    refine hp_callq (hp_runV (As := [.int (5)]) (rest := []) hx hb hml hown hts (t_X13_wrong l D cs B G  V444 n hP.1 q hR (mo) h_mo (5) ho450  (by omega) (by omega) (by omega) (by omega) (by omega) (by omega) (by omega) (by omega) ) hZ ho450 cv_X13_107 rfl rfl ⟨Nat.le_of_ble_eq_true rfl, Nat.le_of_ble_eq_true rfl⟩ rfl hl.1 rfl (Nat.le_of_ble_eq_true rfl) dX13_readLine_302 ⟨(Nat.le_of_ble_eq_true rfl), (Nat.le_of_ble_eq_true rfl)⟩) hZ (fun r514 V511 n512 _ _ hw513 hZ => ?_)
                    obtain ⟨rfl, hq515, ⟨z517, z518, ho519⟩, hr516⟩ := hw513
                    have hP := hP.trans hq515 (by intro g h; simp_all)
                    have b521 := hq_rng z517
                    have b522 := hq_rng z518
                    subst hr516
                    refine W.eq (g2 := F0 m 305 ls [.ref (q + 19)]) rfl ?_
                    have fx523 : V511 (q + 10) = some (.inl (cs 1, 120, .inl (g305))) := (hq515.2 (q + 10) _ (hr_10 hR) rfl).trans ((hq448.2 (q + 10) _ (hr_10 hR) rfl).trans ((hq419.2 (q + 10) _ (hr_10 hR) rfl).trans (fx429)))
                    have fx524 : V511 (q + 14) = some (.inl (cs 1, 120, .inl (g344))) := (hq515.2 (q + 14) _ (hr_14 hR) rfl).trans ((hq448.2 (q + 14) _ (hr_14 hR) rfl).trans ((hq419.2 (q + 14) _ (hr_14 hR) rfl).trans (fx430)))
                    have fx525 : V511 (q + 2) = some (.inl (cs 1, 2, .inl (g10))) := (hq515.2 (q + 2) _ (hr_2 hR) rfl).trans ((hq448.2 (q + 2) _ (hr_2 hR) rfl).trans ((hq419.2 (q + 2) _ (hr_2 hR) rfl).trans (fx431)))
                    exact hq_athrow hx hb hnx hlocks hZ ⟨rfl, rfl, hP, ⟨z422, z423, z424, z517, z518, ho519, by assumption⟩, (hm_JH.of eV1 eV5 eV9 fx523 fx524 fx525 (fun j hj => (congrFun ge306 j).trans (hm_ub (by omega) hj)) (fun j hj => (congrFun ge345 j).trans (hm_ub (by omega) hj)) rfl (hq_rg hI (hr_2 hR) eV9 0 (by decide)).2)⟩ dX13_readLine_305
                · have c452 : ¬ (r447).toInt < (2 : Int) := fun h9 => c452 (hq_lti.mpr h9)
                  refine lv_aload_n hx hb dX13_readLine_276 rfl (lv_at hl 2 rfl) ?_
                  refine lv_iconst (v := 4) hx hb dX13_readLine_277 (by decide) ?_
                  have hl535 : (4 : Int32).toInt = 4 := by decide
                  refine hp_callq (hp_runV (As := [.int (4)]) (rest := []) hx hb hml hown hts (t_X13_wrong l D cs B G  V444 n hP.1 q hR (mo) h_mo (4) ho450  (by omega) (by omega) (by omega) (by omega) (by omega) (by omega) (by omega) (by omega) ) hZ ho450 cv_X13_107 rfl rfl ⟨Nat.le_of_ble_eq_true rfl, Nat.le_of_ble_eq_true rfl⟩ rfl hl.1 rfl (Nat.le_of_ble_eq_true rfl) dX13_readLine_278 ⟨(Nat.le_of_ble_eq_true rfl), (Nat.le_of_ble_eq_true rfl)⟩) hZ (fun r529 V526 n527 _ _ hw528 hZ => ?_)
                  obtain ⟨rfl, hq530, ⟨z532, z533, ho534⟩, hr531⟩ := hw528
                  have hP := hP.trans hq530 (by intro g h; simp_all)
                  have b536 := hq_rng z532
                  have b537 := hq_rng z533
                  subst hr531
                  refine W.eq (g2 := F0 m 281 ls [.ref (q + 19)]) rfl ?_
                  have fx538 : V526 (q + 10) = some (.inl (cs 1, 120, .inl (g305))) := (hq530.2 (q + 10) _ (hr_10 hR) rfl).trans ((hq448.2 (q + 10) _ (hr_10 hR) rfl).trans ((hq419.2 (q + 10) _ (hr_10 hR) rfl).trans (fx429)))
                  have fx539 : V526 (q + 14) = some (.inl (cs 1, 120, .inl (g344))) := (hq530.2 (q + 14) _ (hr_14 hR) rfl).trans ((hq448.2 (q + 14) _ (hr_14 hR) rfl).trans ((hq419.2 (q + 14) _ (hr_14 hR) rfl).trans (fx430)))
                  have fx540 : V526 (q + 2) = some (.inl (cs 1, 2, .inl (g10))) := (hq530.2 (q + 2) _ (hr_2 hR) rfl).trans ((hq448.2 (q + 2) _ (hr_2 hR) rfl).trans ((hq419.2 (q + 2) _ (hr_2 hR) rfl).trans (fx431)))
                  exact hq_athrow hx hb hnx hlocks hZ ⟨rfl, rfl, hP, ⟨z422, z423, z424, z532, z533, ho534, by assumption⟩, (hm_JH.of eV1 eV5 eV9 fx538 fx539 fx540 (fun j hj => (congrFun ge306 j).trans (hm_ub (by omega) hj)) (fun j hj => (congrFun ge345 j).trans (hm_ub (by omega) hj)) rfl (hq_rg hI (hr_2 hR) eV9 0 (by decide)).2)⟩ dX13_readLine_281
              · have c442 : ¬ (z424).toInt = (3 : Int) := fun h9 => c442 (hq_eqi.mpr h9)
                refine lv_aload_n hx hb dX13_readLine_256 rfl (lv_at hl 2 rfl) ?_
                refine lv_iconst (v := 1) hx hb dX13_readLine_257 (by decide) ?_
                have hl550 : (1 : Int32).toInt = 1 := by decide
                refine hp_callq (hp_runV (As := [.int (1)]) (rest := []) hx hb hml hown hts (t_X13_wrong l D cs B G  V415 n hP.1 q hR (mo) h_mo (1) ho427  (by omega) (by omega) (by omega) (by omega) (by omega) (by omega) (by omega) (by omega) ) hZ ho427 cv_X13_107 rfl rfl ⟨Nat.le_of_ble_eq_true rfl, Nat.le_of_ble_eq_true rfl⟩ rfl hl.1 rfl (Nat.le_of_ble_eq_true rfl) dX13_readLine_258 ⟨(Nat.le_of_ble_eq_true rfl), (Nat.le_of_ble_eq_true rfl)⟩) hZ (fun r544 V541 n542 _ _ hw543 hZ => ?_)
                obtain ⟨rfl, hq545, ⟨z547, z548, ho549⟩, hr546⟩ := hw543
                have hP := hP.trans hq545 (by intro g h; simp_all)
                have b551 := hq_rng z547
                have b552 := hq_rng z548
                subst hr546
                refine W.eq (g2 := F0 m 261 ls [.ref (q + 19)]) rfl ?_
                have fx553 : V541 (q + 10) = some (.inl (cs 1, 120, .inl (g305))) := (hq545.2 (q + 10) _ (hr_10 hR) rfl).trans ((hq419.2 (q + 10) _ (hr_10 hR) rfl).trans (fx429))
                have fx554 : V541 (q + 14) = some (.inl (cs 1, 120, .inl (g344))) := (hq545.2 (q + 14) _ (hr_14 hR) rfl).trans ((hq419.2 (q + 14) _ (hr_14 hR) rfl).trans (fx430))
                have fx555 : V541 (q + 2) = some (.inl (cs 1, 2, .inl (g10))) := (hq545.2 (q + 2) _ (hr_2 hR) rfl).trans ((hq419.2 (q + 2) _ (hr_2 hR) rfl).trans (fx431))
                exact hq_athrow hx hb hnx hlocks hZ ⟨rfl, rfl, hP, ⟨z422, z423, z424, z547, z548, ho549, by assumption⟩, (hm_JH.of eV1 eV5 eV9 fx553 fx554 fx555 (fun j hj => (congrFun ge306 j).trans (hm_ub (by omega) hj)) (fun j hj => (congrFun ge345 j).trans (hm_ub (by omega) hj)) rfl (hq_rg hI (hr_2 hR) eV9 0 (by decide)).2)⟩ dX13_readLine_261
            · have c289 : (y285).toInt = (60 : Int) := hq_eqi.mp c289
              refine lv_aload_n hx hb dX13_readLine_102 rfl (lv_at hl 1 rfl) ?_
              refine lv_iconst (v := 4) hx hb dX13_readLine_103 (by decide) ?_
              have hl565 : (4 : Int32).toInt = 4 := by decide
              refine hp_callq (hp_runV (As := [.int (4)]) (rest := []) hx hb hml hown hts (t_X13_wrong l D cs B G  V49 n hP.1 q hR (mo) h_mo (4) ho55  (by omega) (by omega) (by omega) (by omega) (by omega) (by omega) (by omega) (by omega) ) hZ ho55 cv_X13_107 rfl rfl ⟨Nat.le_of_ble_eq_true rfl, Nat.le_of_ble_eq_true rfl⟩ rfl hl.1 rfl (Nat.le_of_ble_eq_true rfl) dX13_readLine_104 ⟨(Nat.le_of_ble_eq_true rfl), (Nat.le_of_ble_eq_true rfl)⟩) hZ (fun r559 V556 n557 _ _ hw558 hZ => ?_)
              obtain ⟨rfl, hq560, ⟨z562, z563, ho564⟩, hr561⟩ := hw558
              have hP := hP.trans hq560 (by intro g h; simp_all)
              have b566 := hq_rng z562
              have b567 := hq_rng z563
              subst hr561
              refine W.eq (g2 := F0 m 107 ls [.ref (q + 19)]) rfl ?_
              have fx568 : V556 (q + 10) = some (.inl (cs 1, 120, .inl (g2))) := (hq560.2 (q + 10) _ (hr_10 hR) rfl).trans ((hq53.2 (q + 10) _ (hr_10 hR) rfl).trans ((hq44.2 (q + 10) _ (hr_10 hR) rfl).trans ((hq35.2 (q + 10) _ (hr_10 hR) rfl).trans ((hq26.2 (q + 10) _ (hr_10 hR) rfl).trans ((hq17.2 (q + 10) _ (hr_10 hR) rfl).trans (eV1))))))
              have fx569 : V556 (q + 14) = some (.inl (cs 1, 120, .inl (g6))) := (hq560.2 (q + 14) _ (hr_14 hR) rfl).trans ((hq53.2 (q + 14) _ (hr_14 hR) rfl).trans ((hq44.2 (q + 14) _ (hr_14 hR) rfl).trans ((hq35.2 (q + 14) _ (hr_14 hR) rfl).trans ((hq26.2 (q + 14) _ (hr_14 hR) rfl).trans ((hq17.2 (q + 14) _ (hr_14 hR) rfl).trans (eV5))))))
              have fx570 : V556 (q + 2) = some (.inl (cs 1, 2, .inl (g10))) := (hq560.2 (q + 2) _ (hr_2 hR) rfl).trans (fx284)
              exact hq_athrow hx hb hnx hlocks hZ ⟨rfl, rfl, hP, ⟨m_fr, m_bh, m_hd, z562, z563, ho564, by assumption⟩, (hm_JH.of eV1 eV5 eV9 fx568 fx569 fx570 (fun j hj => rfl) (fun j hj => rfl) rfl (hq_rg hI (hr_2 hR) eV9 0 (by decide)).2)⟩ dX13_readLine_107
        · have c48 : ¬ (r43).toInt = (0 : Int) := fun h9 => c48 (hq_eqi.mpr h9)
          refine lv_iconst (v := 3) hx hb dX13_readLine_48 (by decide) ?_
          refine lv_goto (tgt := 79) hx hb dX13_readLine_49 (by decide) ?_
          refine lv_istore_n (lv' := [(1, .int (3)), (0, .ref (mo))]) hx hb dX13_readLine_79 rfl hl (by decide) rfl (fun ls hl => ?_)
          refine lv_iload_n hx hb dX13_readLine_80 rfl (lv_at hl 0 rfl) ?_
          refine lv_iconst (v := -1) hx hb dX13_readLine_81 (by decide) ?_
          refine lv_icmp_ne (tgt := 91) hx hb dX13_readLine_82 (by decide) (fun c571 => ?_) (fun c571 => absurd c571 (by decide))
          refine lv_aload_n hx hb dX13_readLine_91 rfl (lv_at hl 1 rfl) ?_
          refine hp_get (v := .ref (q + 2)) hx hb hts hown hZ ho46 fl_X13_10 rfl dX13_readLine_92 ?_
          refine lv_iconst (v := 1) hx hb dX13_readLine_95 (by decide) ?_
          have fx572 : V40 (q + 2) = some (.inl (cs 1, 2, .inl (g10))) := (hq44.2 (q + 2) _ (hr_2 hR) rfl).trans ((hq35.2 (q + 2) _ (hr_2 hR) rfl).trans ((hq26.2 (q + 2) _ (hr_2 hR) rfl).trans ((hq17.2 (q + 2) _ (hr_2 hR) rfl).trans (eV9))))
          refine hp_iald hx hb hZ fx572 (by unfold vp_in; decide) dX13_readLine_96 ?_
          refine lv_topi (fun y573 ey574 => ?_)
          have b576 : (y573).toInt = ((g10) (1 : Int32).toNatClampNeg).toInt := by rw [ey574]
          have b575 : hq_ir (hq_lo 8) (hq_hi 8) y573 := by rw [ey574]; exact hf12 _ (by decide)
          have b575 : 0 ≤ (y573).toInt ∧ (y573).toInt ≤ 60 := b575
          refine lv_bipush (v := 60) hx hb dX13_readLine_97 (by decide) ?_
          refine lv_icmp_ne (tgt := 108) hx hb dX13_readLine_99 (by decide) (fun c577 => ?_) (fun c577 => ?_)
          · have c577 : ¬ (y573).toInt = (60 : Int) := fun h9 => c577 (hq_eqi.mpr h9)
            refine lv_bipush (v := 60) hx hb dX13_readLine_108 (by decide) ?_
            refine lv_aload_n hx hb dX13_readLine_110 rfl (lv_at hl 1 rfl) ?_
            refine hp_get (v := .ref (q + 2)) hx hb hts hown hZ ho46 fl_X13_10 rfl dX13_readLine_111 ?_
            refine lv_iconst (v := 1) hx hb dX13_readLine_114 (by decide) ?_
            refine hp_iald hx hb hZ fx572 (by unfold vp_in; decide) dX13_readLine_115 ?_
            refine lv_topi (fun y578 ey579 => ?_)
            have b581 : (y578).toInt = ((g10) (1 : Int32).toNatClampNeg).toInt := by rw [ey579]
            have b580 : hq_ir (hq_lo 8) (hq_hi 8) y578 := by rw [ey579]; exact hf12 _ (by decide)
            have b580 : 0 ≤ (y578).toInt ∧ (y578).toInt ≤ 60 := b580
            refine lv_iadd hx hb dX13_readLine_116 ?_
            refine lv_topi (fun y582 ey583 => ?_)
            obtain ⟨k584, hk585, b586, b587⟩ := hq_add (60) (y578)
            rw [← ey583] at hk585 b586 b587
            have hk585 : (y582).toInt = (60 : Int) + (y578).toInt + k584 * 4294967296 := hk585
            obtain rfl : k584 = 0 := by omega
            refine lv_istore_n (lv' := [(2, .int (y582)), (1, .int (3)), (0, .ref (mo))]) hx hb dX13_readLine_117 rfl hl (by decide) rfl (fun ls hl => ?_)
            refine lv_aload_n hx hb dX13_readLine_118 rfl (lv_at hl 2 rfl) ?_
            refine hp_get (v := .ref (q + 10)) hx hb hts hown hZ ho46 fl_X13_29 rfl dX13_readLine_119 ?_
            refine lv_iload_n hx hb dX13_readLine_122 rfl (lv_at hl 0 rfl) ?_
            refine lv_iload_n hx hb dX13_readLine_123 rfl (lv_at hl 1 rfl) ?_
            have fx588 : V40 (q + 10) = some (.inl (cs 1, 120, .inl (g2))) := (hq44.2 (q + 10) _ (hr_10 hR) rfl).trans ((hq35.2 (q + 10) _ (hr_10 hR) rfl).trans ((hq26.2 (q + 10) _ (hr_10 hR) rfl).trans ((hq17.2 (q + 10) _ (hr_10 hR) rfl).trans (eV1))))
            refine hp_iast hx hb hZ fx588 (hq_in (by omega) (by omega)) dX13_readLine_124 (fun V589 _ _ e590 o591 hZ => ?_)
            have e590 : V589 (q + 10) = some (.inl (cs 1, 120, .inl (upd (g2) ((y582 : Int32).toNatClampNeg) (3)))) := e590
            have hl592 : (3 : Int32).toInt = 3 := by decide
            have hP := hP.put (hr_10 hR) e590 o591 (hq_c21 (by omega) (hq_upd hf4 (hq_rng _))) rfl
            obtain ⟨g593, ge594⟩ : ∃ g9 : Nat → Int32, g9 = upd (g2) ((y582 : Int32).toNatClampNeg) (3) := ⟨_, rfl⟩
            have fx596 : V589 (q + 10) = some (.inl (cs 1, 120, .inl (g593))) := by rw [ge594]; exact e590
            have hf595 := hq_rg hP.1 (hr_10 hR) fx596
            have b597 : (g593 (y582 : Int32).toNatClampNeg).toInt = (3 : Int32).toInt := congrArg Int32.toInt ((congrFun ge594 _).trans hm_ue)
            have b598 : (3 : Int32).toInt = 3 := by decide
            refine lv_aload_n hx hb dX13_readLine_125 rfl (lv_at hl 2 rfl) ?_
            have fx599 : V589 (mo) = some (.inr (13, hm_o q (m_tp) (m_sz) (m_fr) (m_bh) (m_hd) (m_ft) (m_fa) (m_le) (m_fo) (m_as) (m_fd) (m_bc) (m_bg) (m_bs) (m_be) (m_b0) (m_b1) (m_cm) (m_hc))) := (o591 (mo) (hq_tne h_mo (hr_10 hR) (by simp))).trans (ho46)
            refine hp_get (v := .ref (q + 11)) hx hb hts hown hZ fx599 fl_X13_32 rfl dX13_readLine_126 ?_
            refine lv_iload_n hx hb dX13_readLine_129 rfl (lv_at hl 0 rfl) ?_
            refine lv_iconst (v := -1) hx hb dX13_readLine_130 (by decide) ?_
            obtain ⟨hN602, g601, eV600, hf603⟩ := hq_o21 hP.1 (hr_11 hR)
            refine hp_iast hx hb hZ eV600 (hq_in (by omega) (by omega)) dX13_readLine_131 (fun V604 _ _ e605 o606 hZ => ?_)
            have e605 : V604 (q + 11) = some (.inl (cs 1, 120, .inl (upd (g601) ((y582 : Int32).toNatClampNeg) (-1)))) := e605
            have hl607 : (-1 : Int32).toInt = -1 := by decide
            have hP := hP.put (hr_11 hR) e605 o606 (hq_c21 (by omega) (hq_upd hf603 (hq_rng _))) rfl
            refine lv_aload_n hx hb dX13_readLine_132 rfl (lv_at hl 2 rfl) ?_
            have fx608 : V604 (mo) = some (.inr (13, hm_o q (m_tp) (m_sz) (m_fr) (m_bh) (m_hd) (m_ft) (m_fa) (m_le) (m_fo) (m_as) (m_fd) (m_bc) (m_bg) (m_bs) (m_be) (m_b0) (m_b1) (m_cm) (m_hc))) := (o606 (mo) (hq_tne h_mo (hr_11 hR) (by simp))).trans (fx599)
            refine hp_get (v := .ref (q + 12)) hx hb hts hown hZ fx608 fl_X13_35 rfl dX13_readLine_133 ?_
            refine lv_iload_n hx hb dX13_readLine_136 rfl (lv_at hl 0 rfl) ?_
            refine lv_iconst (v := -1) hx hb dX13_readLine_137 (by decide) ?_
            obtain ⟨hN611, g610, eV609, hf612⟩ := hq_o21 hP.1 (hr_12 hR)
            refine hp_iast hx hb hZ eV609 (hq_in (by omega) (by omega)) dX13_readLine_138 (fun V613 _ _ e614 o615 hZ => ?_)
            have e614 : V613 (q + 12) = some (.inl (cs 1, 120, .inl (upd (g610) ((y582 : Int32).toNatClampNeg) (-1)))) := e614
            have hl616 : (-1 : Int32).toInt = -1 := by decide
            have hP := hP.put (hr_12 hR) e614 o615 (hq_c21 (by omega) (hq_upd hf612 (hq_rng _))) rfl
            refine lv_aload_n hx hb dX13_readLine_139 rfl (lv_at hl 2 rfl) ?_
            have fx617 : V613 (mo) = some (.inr (13, hm_o q (m_tp) (m_sz) (m_fr) (m_bh) (m_hd) (m_ft) (m_fa) (m_le) (m_fo) (m_as) (m_fd) (m_bc) (m_bg) (m_bs) (m_be) (m_b0) (m_b1) (m_cm) (m_hc))) := (o615 (mo) (hq_tne h_mo (hr_12 hR) (by simp))).trans (fx608)
            refine hp_get (v := .ref (q + 13)) hx hb hts hown hZ fx617 fl_X13_38 rfl dX13_readLine_140 ?_
            refine lv_iload_n hx hb dX13_readLine_143 rfl (lv_at hl 0 rfl) ?_
            refine lv_iconst (v := -1) hx hb dX13_readLine_144 (by decide) ?_
            obtain ⟨hN620, g619, eV618, hf621⟩ := hq_o21 hP.1 (hr_13 hR)
            refine hp_iast hx hb hZ eV618 (hq_in (by omega) (by omega)) dX13_readLine_145 (fun V622 _ _ e623 o624 hZ => ?_)
            have e623 : V622 (q + 13) = some (.inl (cs 1, 120, .inl (upd (g619) ((y582 : Int32).toNatClampNeg) (-1)))) := e623
            have hl625 : (-1 : Int32).toInt = -1 := by decide
            have hP := hP.put (hr_13 hR) e623 o624 (hq_c21 (by omega) (hq_upd hf621 (hq_rng _))) rfl
            refine lv_aload_n hx hb dX13_readLine_146 rfl (lv_at hl 2 rfl) ?_
            have fx626 : V622 (mo) = some (.inr (13, hm_o q (m_tp) (m_sz) (m_fr) (m_bh) (m_hd) (m_ft) (m_fa) (m_le) (m_fo) (m_as) (m_fd) (m_bc) (m_bg) (m_bs) (m_be) (m_b0) (m_b1) (m_cm) (m_hc))) := (o624 (mo) (hq_tne h_mo (hr_13 hR) (by simp))).trans (fx617)
            refine hp_get (v := .ref (q + 14)) hx hb hts hown hZ fx626 fl_X13_41 rfl dX13_readLine_147 ?_
            refine lv_iload_n hx hb dX13_readLine_150 rfl (lv_at hl 0 rfl) ?_
            refine lv_iconst (v := 0) hx hb dX13_readLine_151 (by decide) ?_
            have fx627 : V622 (q + 14) = some (.inl (cs 1, 120, .inl (g6))) := (o624 (q + 14) (hq_ne q 14 13 (by decide))).trans ((o615 (q + 14) (hq_ne q 14 12 (by decide))).trans ((o606 (q + 14) (hq_ne q 14 11 (by decide))).trans ((o591 (q + 14) (hq_ne q 14 10 (by decide))).trans ((hq44.2 (q + 14) _ (hr_14 hR) rfl).trans ((hq35.2 (q + 14) _ (hr_14 hR) rfl).trans ((hq26.2 (q + 14) _ (hr_14 hR) rfl).trans ((hq17.2 (q + 14) _ (hr_14 hR) rfl).trans (eV5))))))))
            refine hp_iast hx hb hZ fx627 (hq_in (by omega) (by omega)) dX13_readLine_152 (fun V628 _ _ e629 o630 hZ => ?_)
            have e629 : V628 (q + 14) = some (.inl (cs 1, 120, .inl (upd (g6) ((y582 : Int32).toNatClampNeg) (0)))) := e629
            have hl631 : (0 : Int32).toInt = 0 := by decide
            have hP := hP.put (hr_14 hR) e629 o630 (hq_c21 (by omega) (hq_upd hf8 (show 0 ≤ _ ∧ _ ≤ 8 by constructor <;> omega))) rfl
            obtain ⟨g632, ge633⟩ : ∃ g9 : Nat → Int32, g9 = upd (g6) ((y582 : Int32).toNatClampNeg) (0) := ⟨_, rfl⟩
            have fx635 : V628 (q + 14) = some (.inl (cs 1, 120, .inl (g632))) := by rw [ge633]; exact e629
            have hf634 := hq_rg hP.1 (hr_14 hR) fx635
            have b636 : (g632 (y582 : Int32).toNatClampNeg).toInt = (0 : Int32).toInt := congrArg Int32.toInt ((congrFun ge633 _).trans hm_ue)
            have b637 : (0 : Int32).toInt = 0 := by decide
            refine lv_aload_n hx hb dX13_readLine_153 rfl (lv_at hl 2 rfl) ?_
            have fx638 : V628 (mo) = some (.inr (13, hm_o q (m_tp) (m_sz) (m_fr) (m_bh) (m_hd) (m_ft) (m_fa) (m_le) (m_fo) (m_as) (m_fd) (m_bc) (m_bg) (m_bs) (m_be) (m_b0) (m_b1) (m_cm) (m_hc))) := (o630 (mo) (hq_tne h_mo (hr_14 hR) (by simp))).trans (fx626)
            refine hp_get (v := .ref (q + 15)) hx hb hts hown hZ fx638 fl_X13_44 rfl dX13_readLine_154 ?_
            refine lv_iload_n hx hb dX13_readLine_157 rfl (lv_at hl 0 rfl) ?_
            refine lv_iconst (v := 0) hx hb dX13_readLine_158 (by decide) ?_
            obtain ⟨hN641, g640, eV639, hf642⟩ := hq_o21 hP.1 (hr_15 hR)
            refine hp_iast hx hb hZ eV639 (hq_in (by omega) (by omega)) dX13_readLine_159 (fun V643 _ _ e644 o645 hZ => ?_)
            have e644 : V643 (q + 15) = some (.inl (cs 1, 120, .inl (upd (g640) ((y582 : Int32).toNatClampNeg) (0)))) := e644
            have hl646 : (0 : Int32).toInt = 0 := by decide
            have hP := hP.put (hr_15 hR) e644 o645 (hq_c21 (by omega) (hq_upd hf642 (show 0 ≤ _ ∧ _ ≤ 8 by constructor <;> omega))) rfl
            refine lv_aload_n hx hb dX13_readLine_160 rfl (lv_at hl 2 rfl) ?_
            have fx647 : V643 (mo) = some (.inr (13, hm_o q (m_tp) (m_sz) (m_fr) (m_bh) (m_hd) (m_ft) (m_fa) (m_le) (m_fo) (m_as) (m_fd) (m_bc) (m_bg) (m_bs) (m_be) (m_b0) (m_b1) (m_cm) (m_hc))) := (o645 (mo) (hq_tne h_mo (hr_15 hR) (by simp))).trans (fx638)
            refine hp_get (v := .ref (q + 16)) hx hb hts hown hZ fx647 fl_X13_47 rfl dX13_readLine_161 ?_
            refine lv_iload_n hx hb dX13_readLine_164 rfl (lv_at hl 0 rfl) ?_
            refine lv_iconst (v := 0) hx hb dX13_readLine_165 (by decide) ?_
            obtain ⟨hN650, g649, eV648, hf651⟩ := hq_o21 hP.1 (hr_16 hR)
            refine hp_iast hx hb hZ eV648 (hq_in (by omega) (by omega)) dX13_readLine_166 (fun V652 _ _ e653 o654 hZ => ?_)
            have e653 : V652 (q + 16) = some (.inl (cs 1, 120, .inl (upd (g649) ((y582 : Int32).toNatClampNeg) (0)))) := e653
            have hl655 : (0 : Int32).toInt = 0 := by decide
            have hP := hP.put (hr_16 hR) e653 o654 (hq_c21 (by omega) (hq_upd hf651 (show 0 ≤ _ ∧ _ ≤ 29 by constructor <;> omega))) rfl
            refine lv_aload_n hx hb dX13_readLine_167 rfl (lv_at hl 2 rfl) ?_
            have fx662 : V652 (mo) = some (.inr (13, hm_o q (m_tp) (m_sz) (m_fr) (m_bh) (m_hd) (m_ft) (m_fa) (m_le) (m_fo) (m_as) (m_fd) (m_bc) (m_bg) (m_bs) (m_be) (m_b0) (m_b1) (m_cm) (m_hc))) := (o654 (mo) (hq_tne h_mo (hr_16 hR) (by simp))).trans (fx647)
            refine hp_callv (hp_runV (As := []) (rest := []) hx hb hml hown hts (t_X13_scan l D cs B G  V652 n hP.1 q hR (mo) h_mo fx662  (by omega) (by omega) (by omega) (by omega) (by omega) (by omega) (by omega) (by omega) (hm_SC.s0 (by assumption)) (hm_SC.s1 (by assumption) (by first | omega | (have h8 := hm_Is.hd (by assumption) (by omega); omega)))) hZ fx662 cv_X13_111 rfl rfl ⟨Nat.le_of_ble_eq_true rfl, Nat.le_of_ble_eq_true rfl⟩ rfl hl.1 rfl (Nat.le_of_ble_eq_true rfl) dX13_readLine_168 ⟨(Nat.le_of_ble_eq_true rfl), (Nat.le_of_ble_eq_true rfl)⟩) hZ (fun V656 n657 _ _ hw658 hZ => ?_)
            obtain ⟨rfl, hq660, ⟨z663, z664, z665, ho666, hi667⟩⟩ := hw658
            have hP := hP.trans hq660 (by intro g h; simp_all)
            have b668 := hq_rng z663
            have b669 := hq_rng z664
            have b670 := hq_rng z665
            refine lv_iload_n hx hb dX13_readLine_171 rfl (lv_at hl 1 rfl) ?_
            refine lv_iconst (v := 4) hx hb dX13_readLine_172 (by decide) ?_
            refine lv_icmp_eq (tgt := 181) hx hb dX13_readLine_173 (by decide) (fun c671 => absurd c671 (by decide)) (fun c671 => ?_)
            refine lv_iload_n hx hb dX13_readLine_176 rfl (lv_at hl 1 rfl) ?_
            refine lv_iconst (v := 5) hx hb dX13_readLine_177 (by decide) ?_
            refine lv_icmp_ne (tgt := 194) hx hb dX13_readLine_178 (by decide) (fun c672 => ?_) (fun c672 => absurd c672 (by decide))
            refine lv_iload_n hx hb dX13_readLine_194 rfl (lv_at hl 1 rfl) ?_
            refine lv_iconst (v := 2) hx hb dX13_readLine_195 (by decide) ?_
            refine lv_icmp_eq (tgt := 204) hx hb dX13_readLine_196 (by decide) (fun c673 => absurd c673 (by decide)) (fun c673 => ?_)
            refine lv_aload_n hx hb dX13_readLine_199 rfl (lv_at hl 2 rfl) ?_
            refine lv_iload_n hx hb dX13_readLine_200 rfl (lv_at hl 0 rfl) ?_
            have fx687 : V656 (q + 10) = some (.inl (cs 1, 120, .inl (g593))) := (hq660.2 (q + 10) _ (hr_10 hR) rfl).trans ((o654 (q + 10) (hq_ne q 10 16 (by decide))).trans ((o645 (q + 10) (hq_ne q 10 15 (by decide))).trans ((o630 (q + 10) (hq_ne q 10 14 (by decide))).trans ((o624 (q + 10) (hq_ne q 10 13 (by decide))).trans ((o615 (q + 10) (hq_ne q 10 12 (by decide))).trans ((o606 (q + 10) (hq_ne q 10 11 (by decide))).trans (fx596)))))))
            have fx688 : V656 (q + 14) = some (.inl (cs 1, 120, .inl (g632))) := (hq660.2 (q + 14) _ (hr_14 hR) rfl).trans ((o654 (q + 14) (hq_ne q 14 16 (by decide))).trans ((o645 (q + 14) (hq_ne q 14 15 (by decide))).trans (fx635)))
            have fx689 : V656 (q + 2) = some (.inl (cs 1, 2, .inl (g10))) := (hq660.2 (q + 2) _ (hr_2 hR) rfl).trans ((o654 (q + 2) (hq_ne q 2 16 (by decide))).trans ((o645 (q + 2) (hq_ne q 2 15 (by decide))).trans ((o630 (q + 2) (hq_ne q 2 14 (by decide))).trans ((o624 (q + 2) (hq_ne q 2 13 (by decide))).trans ((o615 (q + 2) (hq_ne q 2 12 (by decide))).trans ((o606 (q + 2) (hq_ne q 2 11 (by decide))).trans ((o591 (q + 2) (hq_ne q 2 10 (by decide))).trans (fx572))))))))
            refine hq_callx (hq_runV (As := [.int (y582)]) (rest := []) hx hb hml hown hts (t_X13_readWhere l D cs B G  V656 n hP.1 q hR (mo) h_mo (y582) ho666  (by omega) (by omega) (by omega) (by omega) (by omega) (by omega) (by omega) (by omega) (by assumption) (by omega) (by omega)) hZ ho666 cv_X13_185 rfl rfl ⟨Nat.le_of_ble_eq_true rfl, Nat.le_of_ble_eq_true rfl⟩ rfl hl.1 rfl (Nat.le_of_ble_eq_true rfl) dX13_readLine_201 ⟨(Nat.le_of_ble_eq_true rfl), (Nat.le_of_ble_eq_true rfl)⟩) hZ hnx hlocks (by rintro x9 V9 n9 ⟨rfl, rfl, hq9, ⟨z680x, z681x, z682x, z683x, z684x, hox0, hix00⟩⟩; have hbxz680 := hq_rng z680x; have hbxz681 := hq_rng z681x; have hbxz682 := hq_rng z682x; have hbxz683 := hq_rng z683x; have hbxz684 := hq_rng z684x; exact ⟨rfl, rfl, hP.trans hq9 (by intro g h; simp_all), ⟨z680x, z681x, z682x, z683x, z684x, hox0, by assumption⟩, ((hm_JH.of eV1 eV5 eV9 fx687 fx688 fx689 (fun j hj => (congrFun ge594 j).trans (hm_ub (by omega) hj)) (fun j hj => (congrFun ge633 j).trans (hm_ub (by omega) hj)) rfl (hq_rg hI (hr_2 hR) eV9 0 (by decide)).2)).keep hR (fun x t hx hg => hq9.2 x t hx (by simp [hg]))⟩) (fun v9 V674 n675 _ _ hw676 hZ => ?_)
            obtain ⟨rfl, rfl, hq678, ⟨z680, z681, z682, z683, z684, ho685, hi686⟩⟩ := hw676
            refine W.eq (g2 := F0 m 204 ls []) rfl ?_
            have hP := hP.trans hq678 (by intro g h; simp_all)
            have b690 := hq_rng z680
            have b691 := hq_rng z681
            have b692 := hq_rng z682
            have b693 := hq_rng z683
            have b694 := hq_rng z684
            refine lv_iload_n hx hb dX13_readLine_204 rfl (lv_at hl 1 rfl) ?_
            refine lv_iconst (v := 2) hx hb dX13_readLine_205 (by decide) ?_
            refine lv_icmp_eq (tgt := 219) hx hb dX13_readLine_206 (by decide) (fun c695 => absurd c695 (by decide)) (fun c695 => ?_)
            refine lv_iload_n hx hb dX13_readLine_209 rfl (lv_at hl 1 rfl) ?_
            refine lv_iconst (v := 3) hx hb dX13_readLine_210 (by decide) ?_
            refine lv_icmp_eq (tgt := 219) hx hb dX13_readLine_211 (by decide) (fun c696 => ?_) (fun c696 => absurd (by decide) c696)
            refine lv_iload_n hx hb dX13_readLine_219 rfl (lv_at hl 1 rfl) ?_
            refine lv_iconst (v := 3) hx hb dX13_readLine_220 (by decide) ?_
            refine lv_icmp_ne (tgt := 229) hx hb dX13_readLine_221 (by decide) (fun c697 => absurd (by decide) c697) (fun c697 => ?_)
            refine lv_aload_n hx hb dX13_readLine_224 rfl (lv_at hl 2 rfl) ?_
            refine lv_iload_n hx hb dX13_readLine_225 rfl (lv_at hl 0 rfl) ?_
            have fx711 : V674 (q + 10) = some (.inl (cs 1, 120, .inl (g593))) := (hq678.2 (q + 10) _ (hr_10 hR) rfl).trans (fx687)
            have fx712 : V674 (q + 14) = some (.inl (cs 1, 120, .inl (g632))) := (hq678.2 (q + 14) _ (hr_14 hR) rfl).trans (fx688)
            have fx713 : V674 (q + 2) = some (.inl (cs 1, 2, .inl (g10))) := (hq678.2 (q + 2) _ (hr_2 hR) rfl).trans (fx689)
            refine hq_callx (hq_runV (As := [.int (y582)]) (rest := []) hx hb hml hown hts (t_X13_readCompound l D cs B G  V674 n hP.1 q hR (mo) h_mo (y582) ho685  (by omega) (by omega) (by omega) (by omega) (by omega) (by omega) (by omega) (by omega) (by assumption) (by omega) (by omega)) hZ ho685 cv_X13_192 rfl rfl ⟨Nat.le_of_ble_eq_true rfl, Nat.le_of_ble_eq_true rfl⟩ rfl hl.1 rfl (Nat.le_of_ble_eq_true rfl) dX13_readLine_226 ⟨(Nat.le_of_ble_eq_true rfl), (Nat.le_of_ble_eq_true rfl)⟩) hZ hnx hlocks (by rintro x9 V9 n9 ⟨rfl, rfl, hq9, ⟨z704x, z705x, z706x, z707x, z708x, hox0, hix00⟩⟩; have hbxz704 := hq_rng z704x; have hbxz705 := hq_rng z705x; have hbxz706 := hq_rng z706x; have hbxz707 := hq_rng z707x; have hbxz708 := hq_rng z708x; exact ⟨rfl, rfl, hP.trans hq9 (by intro g h; simp_all), ⟨z704x, z705x, z706x, z707x, z708x, hox0, by assumption⟩, ((hm_JH.of eV1 eV5 eV9 fx711 fx712 fx713 (fun j hj => (congrFun ge594 j).trans (hm_ub (by omega) hj)) (fun j hj => (congrFun ge633 j).trans (hm_ub (by omega) hj)) rfl (hq_rg hI (hr_2 hR) eV9 0 (by decide)).2)).keep hR (fun x t hx hg => hq9.2 x t hx (by simp [hg]))⟩) (fun v9 V698 n699 _ _ hw700 hZ => ?_)
            obtain ⟨rfl, rfl, hq702, ⟨z704, z705, z706, z707, z708, ho709, hi710⟩⟩ := hw700
            refine W.eq (g2 := F0 m 229 ls []) rfl ?_
            have hP := hP.trans hq702 (by intro g h; simp_all)
            have b714 := hq_rng z704
            have b715 := hq_rng z705
            have b716 := hq_rng z706
            have b717 := hq_rng z707
            have b718 := hq_rng z708
            refine lv_iload_n hx hb dX13_readLine_229 rfl (lv_at hl 1 rfl) ?_
            refine lv_if_eq (tgt := 248) hx hb dX13_readLine_230 (by decide) (fun c719 => absurd c719 (by decide)) (fun c719 => ?_)
            refine lv_iload_n hx hb dX13_readLine_233 rfl (lv_at hl 1 rfl) ?_
            refine lv_iconst (v := 1) hx hb dX13_readLine_234 (by decide) ?_
            refine lv_icmp_eq (tgt := 248) hx hb dX13_readLine_235 (by decide) (fun c720 => absurd c720 (by decide)) (fun c720 => ?_)
            refine lv_iload_n hx hb dX13_readLine_238 rfl (lv_at hl 1 rfl) ?_
            refine lv_iconst (v := 2) hx hb dX13_readLine_239 (by decide) ?_
            refine lv_icmp_eq (tgt := 248) hx hb dX13_readLine_240 (by decide) (fun c721 => absurd c721 (by decide)) (fun c721 => ?_)
            refine lv_iload_n hx hb dX13_readLine_243 rfl (lv_at hl 1 rfl) ?_
            refine lv_iconst (v := 4) hx hb dX13_readLine_244 (by decide) ?_
            refine lv_icmp_ne (tgt := 321) hx hb dX13_readLine_245 (by decide) (fun c722 => ?_) (fun c722 => absurd c722 (by decide))
            refine lv_iload_n hx hb dX13_readLine_321 rfl (lv_at hl 1 rfl) ?_
            refine lv_if_eq (tgt := 330) hx hb dX13_readLine_322 (by decide) (fun c723 => absurd c723 (by decide)) (fun c723 => ?_)
            refine lv_iload_n hx hb dX13_readLine_325 rfl (lv_at hl 1 rfl) ?_
            refine lv_iconst (v := 2) hx hb dX13_readLine_326 (by decide) ?_
            refine lv_icmp_ne (tgt := 365) hx hb dX13_readLine_327 (by decide) (fun c724 => ?_) (fun c724 => absurd c724 (by decide))
            refine lv_iload_n hx hb dX13_readLine_365 rfl (lv_at hl 1 rfl) ?_
            refine lv_iconst (v := 2) hx hb dX13_readLine_366 (by decide) ?_
            refine lv_icmp_ne (tgt := 390) hx hb dX13_readLine_367 (by decide) (fun c725 => ?_) (fun c725 => absurd c725 (by decide))
            refine lv_aload_n hx hb dX13_readLine_390 rfl (lv_at hl 2 rfl) ?_
            refine hp_get (v := .ref (q + 2)) hx hb hts hown hZ ho709 fl_X13_10 rfl dX13_readLine_391 ?_
            refine lv_iconst (v := 1) hx hb dX13_readLine_394 (by decide) ?_
            refine lv_dup2_11 hx hb dX13_readLine_395 rfl rfl ?_
            have fx726 : V698 (q + 2) = some (.inl (cs 1, 2, .inl (g10))) := (hq702.2 (q + 2) _ (hr_2 hR) rfl).trans (fx713)
            refine hp_iald hx hb hZ fx726 (by unfold vp_in; decide) dX13_readLine_396 ?_
            refine lv_topi (fun y727 ey728 => ?_)
            have b730 : (y727).toInt = ((g10) (1 : Int32).toNatClampNeg).toInt := by rw [ey728]
            have b729 : hq_ir (hq_lo 8) (hq_hi 8) y727 := by rw [ey728]; exact hf12 _ (by decide)
            have b729 : 0 ≤ (y727).toInt ∧ (y727).toInt ≤ 60 := b729
            refine lv_iconst (v := 1) hx hb dX13_readLine_397 (by decide) ?_
            refine lv_iadd hx hb dX13_readLine_398 ?_
            refine lv_topi (fun y731 ey732 => ?_)
            obtain ⟨k733, hk734, b735, b736⟩ := hq_add (y727) (1)
            rw [← ey732] at hk734 b735 b736
            have hk734 : (y731).toInt = (y727).toInt + (1 : Int) + k733 * 4294967296 := hk734
            obtain rfl : k733 = 0 := by omega
            refine hp_iast hx hb hZ fx726 (by unfold vp_in; decide) dX13_readLine_399 (fun V737 _ _ e738 o739 hZ => ?_)
            have e738 : V737 (q + 2) = some (.inl (cs 1, 2, .inl (upd (g10) ((1 : Int32).toNatClampNeg) (y731)))) := e738
            have hP := hP.put (hr_2 hR) e738 o739 (hq_c21 (by omega) (hq_upd hf12 (show 0 ≤ _ ∧ _ ≤ 60 by constructor <;> omega))) rfl
            obtain ⟨g740, ge741⟩ : ∃ g9 : Nat → Int32, g9 = upd (g10) ((1 : Int32).toNatClampNeg) (y731) := ⟨_, rfl⟩
            have fx743 : V737 (q + 2) = some (.inl (cs 1, 2, .inl (g740))) := by rw [ge741]; exact e738
            have hf742 := hq_rg hP.1 (hr_2 hR) fx743
            have b744 : (g740 (1 : Int32).toNatClampNeg).toInt = (y731 : Int32).toInt := congrArg Int32.toInt ((congrFun ge741 _).trans hm_ue)
            have fx745 : V737 (mo) = some (.inr (13, hm_o q (m_tp) (m_sz) (z704) (z705) (z706) (z707) (z708) (m_le) (m_fo) (m_as) (m_fd) (m_bc) (m_bg) (m_bs) (m_be) (m_b0) (m_b1) (m_cm) (m_hc))) := (o739 (mo) (hq_tne h_mo (hr_2 hR) (by simp))).trans (ho709)
            have fx746 : V737 (q + 10) = some (.inl (cs 1, 120, .inl (g593))) := (o739 (q + 10) (hq_ne q 10 2 (by decide))).trans ((hq702.2 (q + 10) _ (hr_10 hR) rfl).trans (fx711))
            have fx747 : V737 (q + 14) = some (.inl (cs 1, 120, .inl (g632))) := (o739 (q + 14) (hq_ne q 14 2 (by decide))).trans ((hq702.2 (q + 14) _ (hr_14 hR) rfl).trans (fx712))
            exact hq_vret hx hb hr hlocks hZ ⟨rfl, rfl, hP, ⟨z704, z705, z706, z707, z708, fx745, by assumption⟩, ⟨(hm_JH.of eV1 eV5 eV9 fx746 fx747 fx743 (fun j hj => (congrFun ge594 j).trans (hm_ub (by omega) hj)) (fun j hj => (congrFun ge633 j).trans (hm_ub (by omega) hj)) ((congrFun ge741 0).trans (hm_un (by decide))) (hq_rg hI (hr_2 hR) eV9 0 (by decide)).2), (hm_JJ.of (l := y582) eV1 eV5 eV9 fx746 fx747 fx743 (by omega) (by omega) (fun j hj => (congrFun ge594 j).trans (hm_un hj)) (fun j hj => (congrFun ge633 j).trans (hm_un hj)) (by rw [show g740 (1 : Int32).toNatClampNeg = _ from (congrFun ge741 _).trans hm_ue]; omega) (fun h9 => by rw [show g593 y582.toNatClampNeg = 3 from (congrFun ge594 _).trans hm_ue] at h9; exact absurd h9 (by decide)))⟩⟩ dX13_readLine_400
          · have c577 : (y573).toInt = (60 : Int) := hq_eqi.mp c577
            refine lv_aload_n hx hb dX13_readLine_102 rfl (lv_at hl 1 rfl) ?_
            refine lv_iconst (v := 4) hx hb dX13_readLine_103 (by decide) ?_
            have hl757 : (4 : Int32).toInt = 4 := by decide
            refine hp_callq (hp_runV (As := [.int (4)]) (rest := []) hx hb hml hown hts (t_X13_wrong l D cs B G  V40 n hP.1 q hR (mo) h_mo (4) ho46  (by omega) (by omega) (by omega) (by omega) (by omega) (by omega) (by omega) (by omega) ) hZ ho46 cv_X13_107 rfl rfl ⟨Nat.le_of_ble_eq_true rfl, Nat.le_of_ble_eq_true rfl⟩ rfl hl.1 rfl (Nat.le_of_ble_eq_true rfl) dX13_readLine_104 ⟨(Nat.le_of_ble_eq_true rfl), (Nat.le_of_ble_eq_true rfl)⟩) hZ (fun r751 V748 n749 _ _ hw750 hZ => ?_)
            obtain ⟨rfl, hq752, ⟨z754, z755, ho756⟩, hr753⟩ := hw750
            have hP := hP.trans hq752 (by intro g h; simp_all)
            have b758 := hq_rng z754
            have b759 := hq_rng z755
            subst hr753
            refine W.eq (g2 := F0 m 107 ls [.ref (q + 19)]) rfl ?_
            have fx760 : V748 (q + 10) = some (.inl (cs 1, 120, .inl (g2))) := (hq752.2 (q + 10) _ (hr_10 hR) rfl).trans ((hq44.2 (q + 10) _ (hr_10 hR) rfl).trans ((hq35.2 (q + 10) _ (hr_10 hR) rfl).trans ((hq26.2 (q + 10) _ (hr_10 hR) rfl).trans ((hq17.2 (q + 10) _ (hr_10 hR) rfl).trans (eV1)))))
            have fx761 : V748 (q + 14) = some (.inl (cs 1, 120, .inl (g6))) := (hq752.2 (q + 14) _ (hr_14 hR) rfl).trans ((hq44.2 (q + 14) _ (hr_14 hR) rfl).trans ((hq35.2 (q + 14) _ (hr_14 hR) rfl).trans ((hq26.2 (q + 14) _ (hr_14 hR) rfl).trans ((hq17.2 (q + 14) _ (hr_14 hR) rfl).trans (eV5)))))
            have fx762 : V748 (q + 2) = some (.inl (cs 1, 2, .inl (g10))) := (hq752.2 (q + 2) _ (hr_2 hR) rfl).trans (fx572)
            exact hq_athrow hx hb hnx hlocks hZ ⟨rfl, rfl, hP, ⟨m_fr, m_bh, m_hd, z754, z755, ho756, by assumption⟩, (hm_JH.of eV1 eV5 eV9 fx760 fx761 fx762 (fun j hj => rfl) (fun j hj => rfl) rfl (hq_rg hI (hr_2 hR) eV9 0 (by decide)).2)⟩ dX13_readLine_107
      · have c39 : ¬ (r34).toInt = (0 : Int) := fun h9 => c39 (hq_eqi.mpr h9)
        refine lv_iconst (v := 2) hx hb dX13_readLine_35 (by decide) ?_
        refine lv_goto (tgt := 79) hx hb dX13_readLine_36 (by decide) ?_
        refine lv_istore_n (lv' := [(1, .int (2)), (0, .ref (mo))]) hx hb dX13_readLine_79 rfl hl (by decide) rfl (fun ls hl => ?_)
        refine lv_iload_n hx hb dX13_readLine_80 rfl (lv_at hl 0 rfl) ?_
        refine lv_iconst (v := -1) hx hb dX13_readLine_81 (by decide) ?_
        refine lv_icmp_ne (tgt := 91) hx hb dX13_readLine_82 (by decide) (fun c763 => ?_) (fun c763 => absurd c763 (by decide))
        refine lv_aload_n hx hb dX13_readLine_91 rfl (lv_at hl 1 rfl) ?_
        refine hp_get (v := .ref (q + 2)) hx hb hts hown hZ ho37 fl_X13_10 rfl dX13_readLine_92 ?_
        refine lv_iconst (v := 1) hx hb dX13_readLine_95 (by decide) ?_
        have fx764 : V31 (q + 2) = some (.inl (cs 1, 2, .inl (g10))) := (hq35.2 (q + 2) _ (hr_2 hR) rfl).trans ((hq26.2 (q + 2) _ (hr_2 hR) rfl).trans ((hq17.2 (q + 2) _ (hr_2 hR) rfl).trans (eV9)))
        refine hp_iald hx hb hZ fx764 (by unfold vp_in; decide) dX13_readLine_96 ?_
        refine lv_topi (fun y765 ey766 => ?_)
        have b768 : (y765).toInt = ((g10) (1 : Int32).toNatClampNeg).toInt := by rw [ey766]
        have b767 : hq_ir (hq_lo 8) (hq_hi 8) y765 := by rw [ey766]; exact hf12 _ (by decide)
        have b767 : 0 ≤ (y765).toInt ∧ (y765).toInt ≤ 60 := b767
        refine lv_bipush (v := 60) hx hb dX13_readLine_97 (by decide) ?_
        refine lv_icmp_ne (tgt := 108) hx hb dX13_readLine_99 (by decide) (fun c769 => ?_) (fun c769 => ?_)
        · have c769 : ¬ (y765).toInt = (60 : Int) := fun h9 => c769 (hq_eqi.mpr h9)
          refine lv_bipush (v := 60) hx hb dX13_readLine_108 (by decide) ?_
          refine lv_aload_n hx hb dX13_readLine_110 rfl (lv_at hl 1 rfl) ?_
          refine hp_get (v := .ref (q + 2)) hx hb hts hown hZ ho37 fl_X13_10 rfl dX13_readLine_111 ?_
          refine lv_iconst (v := 1) hx hb dX13_readLine_114 (by decide) ?_
          refine hp_iald hx hb hZ fx764 (by unfold vp_in; decide) dX13_readLine_115 ?_
          refine lv_topi (fun y770 ey771 => ?_)
          have b773 : (y770).toInt = ((g10) (1 : Int32).toNatClampNeg).toInt := by rw [ey771]
          have b772 : hq_ir (hq_lo 8) (hq_hi 8) y770 := by rw [ey771]; exact hf12 _ (by decide)
          have b772 : 0 ≤ (y770).toInt ∧ (y770).toInt ≤ 60 := b772
          refine lv_iadd hx hb dX13_readLine_116 ?_
          refine lv_topi (fun y774 ey775 => ?_)
          obtain ⟨k776, hk777, b778, b779⟩ := hq_add (60) (y770)
          rw [← ey775] at hk777 b778 b779
          have hk777 : (y774).toInt = (60 : Int) + (y770).toInt + k776 * 4294967296 := hk777
          obtain rfl : k776 = 0 := by omega
          refine lv_istore_n (lv' := [(2, .int (y774)), (1, .int (2)), (0, .ref (mo))]) hx hb dX13_readLine_117 rfl hl (by decide) rfl (fun ls hl => ?_)
          refine lv_aload_n hx hb dX13_readLine_118 rfl (lv_at hl 2 rfl) ?_
          refine hp_get (v := .ref (q + 10)) hx hb hts hown hZ ho37 fl_X13_29 rfl dX13_readLine_119 ?_
          refine lv_iload_n hx hb dX13_readLine_122 rfl (lv_at hl 0 rfl) ?_
          refine lv_iload_n hx hb dX13_readLine_123 rfl (lv_at hl 1 rfl) ?_
          have fx780 : V31 (q + 10) = some (.inl (cs 1, 120, .inl (g2))) := (hq35.2 (q + 10) _ (hr_10 hR) rfl).trans ((hq26.2 (q + 10) _ (hr_10 hR) rfl).trans ((hq17.2 (q + 10) _ (hr_10 hR) rfl).trans (eV1)))
          refine hp_iast hx hb hZ fx780 (hq_in (by omega) (by omega)) dX13_readLine_124 (fun V781 _ _ e782 o783 hZ => ?_)
          have e782 : V781 (q + 10) = some (.inl (cs 1, 120, .inl (upd (g2) ((y774 : Int32).toNatClampNeg) (2)))) := e782
          have hl784 : (2 : Int32).toInt = 2 := by decide
          have hP := hP.put (hr_10 hR) e782 o783 (hq_c21 (by omega) (hq_upd hf4 (hq_rng _))) rfl
          obtain ⟨g785, ge786⟩ : ∃ g9 : Nat → Int32, g9 = upd (g2) ((y774 : Int32).toNatClampNeg) (2) := ⟨_, rfl⟩
          have fx788 : V781 (q + 10) = some (.inl (cs 1, 120, .inl (g785))) := by rw [ge786]; exact e782
          have hf787 := hq_rg hP.1 (hr_10 hR) fx788
          have b789 : (g785 (y774 : Int32).toNatClampNeg).toInt = (2 : Int32).toInt := congrArg Int32.toInt ((congrFun ge786 _).trans hm_ue)
          have b790 : (2 : Int32).toInt = 2 := by decide
          refine lv_aload_n hx hb dX13_readLine_125 rfl (lv_at hl 2 rfl) ?_
          have fx791 : V781 (mo) = some (.inr (13, hm_o q (m_tp) (m_sz) (m_fr) (m_bh) (m_hd) (m_ft) (m_fa) (m_le) (m_fo) (m_as) (m_fd) (m_bc) (m_bg) (m_bs) (m_be) (m_b0) (m_b1) (m_cm) (m_hc))) := (o783 (mo) (hq_tne h_mo (hr_10 hR) (by simp))).trans (ho37)
          refine hp_get (v := .ref (q + 11)) hx hb hts hown hZ fx791 fl_X13_32 rfl dX13_readLine_126 ?_
          refine lv_iload_n hx hb dX13_readLine_129 rfl (lv_at hl 0 rfl) ?_
          refine lv_iconst (v := -1) hx hb dX13_readLine_130 (by decide) ?_
          obtain ⟨hN794, g793, eV792, hf795⟩ := hq_o21 hP.1 (hr_11 hR)
          refine hp_iast hx hb hZ eV792 (hq_in (by omega) (by omega)) dX13_readLine_131 (fun V796 _ _ e797 o798 hZ => ?_)
          have e797 : V796 (q + 11) = some (.inl (cs 1, 120, .inl (upd (g793) ((y774 : Int32).toNatClampNeg) (-1)))) := e797
          have hl799 : (-1 : Int32).toInt = -1 := by decide
          have hP := hP.put (hr_11 hR) e797 o798 (hq_c21 (by omega) (hq_upd hf795 (hq_rng _))) rfl
          refine lv_aload_n hx hb dX13_readLine_132 rfl (lv_at hl 2 rfl) ?_
          have fx800 : V796 (mo) = some (.inr (13, hm_o q (m_tp) (m_sz) (m_fr) (m_bh) (m_hd) (m_ft) (m_fa) (m_le) (m_fo) (m_as) (m_fd) (m_bc) (m_bg) (m_bs) (m_be) (m_b0) (m_b1) (m_cm) (m_hc))) := (o798 (mo) (hq_tne h_mo (hr_11 hR) (by simp))).trans (fx791)
          refine hp_get (v := .ref (q + 12)) hx hb hts hown hZ fx800 fl_X13_35 rfl dX13_readLine_133 ?_
          refine lv_iload_n hx hb dX13_readLine_136 rfl (lv_at hl 0 rfl) ?_
          refine lv_iconst (v := -1) hx hb dX13_readLine_137 (by decide) ?_
          obtain ⟨hN803, g802, eV801, hf804⟩ := hq_o21 hP.1 (hr_12 hR)
          refine hp_iast hx hb hZ eV801 (hq_in (by omega) (by omega)) dX13_readLine_138 (fun V805 _ _ e806 o807 hZ => ?_)
          have e806 : V805 (q + 12) = some (.inl (cs 1, 120, .inl (upd (g802) ((y774 : Int32).toNatClampNeg) (-1)))) := e806
          have hl808 : (-1 : Int32).toInt = -1 := by decide
          have hP := hP.put (hr_12 hR) e806 o807 (hq_c21 (by omega) (hq_upd hf804 (hq_rng _))) rfl
          refine lv_aload_n hx hb dX13_readLine_139 rfl (lv_at hl 2 rfl) ?_
          have fx809 : V805 (mo) = some (.inr (13, hm_o q (m_tp) (m_sz) (m_fr) (m_bh) (m_hd) (m_ft) (m_fa) (m_le) (m_fo) (m_as) (m_fd) (m_bc) (m_bg) (m_bs) (m_be) (m_b0) (m_b1) (m_cm) (m_hc))) := (o807 (mo) (hq_tne h_mo (hr_12 hR) (by simp))).trans (fx800)
          refine hp_get (v := .ref (q + 13)) hx hb hts hown hZ fx809 fl_X13_38 rfl dX13_readLine_140 ?_
          refine lv_iload_n hx hb dX13_readLine_143 rfl (lv_at hl 0 rfl) ?_
          refine lv_iconst (v := -1) hx hb dX13_readLine_144 (by decide) ?_
          obtain ⟨hN812, g811, eV810, hf813⟩ := hq_o21 hP.1 (hr_13 hR)
          refine hp_iast hx hb hZ eV810 (hq_in (by omega) (by omega)) dX13_readLine_145 (fun V814 _ _ e815 o816 hZ => ?_)
          have e815 : V814 (q + 13) = some (.inl (cs 1, 120, .inl (upd (g811) ((y774 : Int32).toNatClampNeg) (-1)))) := e815
          have hl817 : (-1 : Int32).toInt = -1 := by decide
          have hP := hP.put (hr_13 hR) e815 o816 (hq_c21 (by omega) (hq_upd hf813 (hq_rng _))) rfl
          refine lv_aload_n hx hb dX13_readLine_146 rfl (lv_at hl 2 rfl) ?_
          have fx818 : V814 (mo) = some (.inr (13, hm_o q (m_tp) (m_sz) (m_fr) (m_bh) (m_hd) (m_ft) (m_fa) (m_le) (m_fo) (m_as) (m_fd) (m_bc) (m_bg) (m_bs) (m_be) (m_b0) (m_b1) (m_cm) (m_hc))) := (o816 (mo) (hq_tne h_mo (hr_13 hR) (by simp))).trans (fx809)
          refine hp_get (v := .ref (q + 14)) hx hb hts hown hZ fx818 fl_X13_41 rfl dX13_readLine_147 ?_
          refine lv_iload_n hx hb dX13_readLine_150 rfl (lv_at hl 0 rfl) ?_
          refine lv_iconst (v := 0) hx hb dX13_readLine_151 (by decide) ?_
          have fx819 : V814 (q + 14) = some (.inl (cs 1, 120, .inl (g6))) := (o816 (q + 14) (hq_ne q 14 13 (by decide))).trans ((o807 (q + 14) (hq_ne q 14 12 (by decide))).trans ((o798 (q + 14) (hq_ne q 14 11 (by decide))).trans ((o783 (q + 14) (hq_ne q 14 10 (by decide))).trans ((hq35.2 (q + 14) _ (hr_14 hR) rfl).trans ((hq26.2 (q + 14) _ (hr_14 hR) rfl).trans ((hq17.2 (q + 14) _ (hr_14 hR) rfl).trans (eV5)))))))
          refine hp_iast hx hb hZ fx819 (hq_in (by omega) (by omega)) dX13_readLine_152 (fun V820 _ _ e821 o822 hZ => ?_)
          have e821 : V820 (q + 14) = some (.inl (cs 1, 120, .inl (upd (g6) ((y774 : Int32).toNatClampNeg) (0)))) := e821
          have hl823 : (0 : Int32).toInt = 0 := by decide
          have hP := hP.put (hr_14 hR) e821 o822 (hq_c21 (by omega) (hq_upd hf8 (show 0 ≤ _ ∧ _ ≤ 8 by constructor <;> omega))) rfl
          obtain ⟨g824, ge825⟩ : ∃ g9 : Nat → Int32, g9 = upd (g6) ((y774 : Int32).toNatClampNeg) (0) := ⟨_, rfl⟩
          have fx827 : V820 (q + 14) = some (.inl (cs 1, 120, .inl (g824))) := by rw [ge825]; exact e821
          have hf826 := hq_rg hP.1 (hr_14 hR) fx827
          have b828 : (g824 (y774 : Int32).toNatClampNeg).toInt = (0 : Int32).toInt := congrArg Int32.toInt ((congrFun ge825 _).trans hm_ue)
          have b829 : (0 : Int32).toInt = 0 := by decide
          refine lv_aload_n hx hb dX13_readLine_153 rfl (lv_at hl 2 rfl) ?_
          have fx830 : V820 (mo) = some (.inr (13, hm_o q (m_tp) (m_sz) (m_fr) (m_bh) (m_hd) (m_ft) (m_fa) (m_le) (m_fo) (m_as) (m_fd) (m_bc) (m_bg) (m_bs) (m_be) (m_b0) (m_b1) (m_cm) (m_hc))) := (o822 (mo) (hq_tne h_mo (hr_14 hR) (by simp))).trans (fx818)
          refine hp_get (v := .ref (q + 15)) hx hb hts hown hZ fx830 fl_X13_44 rfl dX13_readLine_154 ?_
          refine lv_iload_n hx hb dX13_readLine_157 rfl (lv_at hl 0 rfl) ?_
          refine lv_iconst (v := 0) hx hb dX13_readLine_158 (by decide) ?_
          obtain ⟨hN833, g832, eV831, hf834⟩ := hq_o21 hP.1 (hr_15 hR)
          refine hp_iast hx hb hZ eV831 (hq_in (by omega) (by omega)) dX13_readLine_159 (fun V835 _ _ e836 o837 hZ => ?_)
          have e836 : V835 (q + 15) = some (.inl (cs 1, 120, .inl (upd (g832) ((y774 : Int32).toNatClampNeg) (0)))) := e836
          have hl838 : (0 : Int32).toInt = 0 := by decide
          have hP := hP.put (hr_15 hR) e836 o837 (hq_c21 (by omega) (hq_upd hf834 (show 0 ≤ _ ∧ _ ≤ 8 by constructor <;> omega))) rfl
          refine lv_aload_n hx hb dX13_readLine_160 rfl (lv_at hl 2 rfl) ?_
          have fx839 : V835 (mo) = some (.inr (13, hm_o q (m_tp) (m_sz) (m_fr) (m_bh) (m_hd) (m_ft) (m_fa) (m_le) (m_fo) (m_as) (m_fd) (m_bc) (m_bg) (m_bs) (m_be) (m_b0) (m_b1) (m_cm) (m_hc))) := (o837 (mo) (hq_tne h_mo (hr_15 hR) (by simp))).trans (fx830)
          refine hp_get (v := .ref (q + 16)) hx hb hts hown hZ fx839 fl_X13_47 rfl dX13_readLine_161 ?_
          refine lv_iload_n hx hb dX13_readLine_164 rfl (lv_at hl 0 rfl) ?_
          refine lv_iconst (v := 0) hx hb dX13_readLine_165 (by decide) ?_
          obtain ⟨hN842, g841, eV840, hf843⟩ := hq_o21 hP.1 (hr_16 hR)
          refine hp_iast hx hb hZ eV840 (hq_in (by omega) (by omega)) dX13_readLine_166 (fun V844 _ _ e845 o846 hZ => ?_)
          have e845 : V844 (q + 16) = some (.inl (cs 1, 120, .inl (upd (g841) ((y774 : Int32).toNatClampNeg) (0)))) := e845
          have hl847 : (0 : Int32).toInt = 0 := by decide
          have hP := hP.put (hr_16 hR) e845 o846 (hq_c21 (by omega) (hq_upd hf843 (show 0 ≤ _ ∧ _ ≤ 29 by constructor <;> omega))) rfl
          refine lv_aload_n hx hb dX13_readLine_167 rfl (lv_at hl 2 rfl) ?_
          have fx854 : V844 (mo) = some (.inr (13, hm_o q (m_tp) (m_sz) (m_fr) (m_bh) (m_hd) (m_ft) (m_fa) (m_le) (m_fo) (m_as) (m_fd) (m_bc) (m_bg) (m_bs) (m_be) (m_b0) (m_b1) (m_cm) (m_hc))) := (o846 (mo) (hq_tne h_mo (hr_16 hR) (by simp))).trans (fx839)
          refine hp_callv (hp_runV (As := []) (rest := []) hx hb hml hown hts (t_X13_scan l D cs B G  V844 n hP.1 q hR (mo) h_mo fx854  (by omega) (by omega) (by omega) (by omega) (by omega) (by omega) (by omega) (by omega) (hm_SC.s0 (by assumption)) (hm_SC.s1 (by assumption) (by first | omega | (have h8 := hm_Is.hd (by assumption) (by omega); omega)))) hZ fx854 cv_X13_111 rfl rfl ⟨Nat.le_of_ble_eq_true rfl, Nat.le_of_ble_eq_true rfl⟩ rfl hl.1 rfl (Nat.le_of_ble_eq_true rfl) dX13_readLine_168 ⟨(Nat.le_of_ble_eq_true rfl), (Nat.le_of_ble_eq_true rfl)⟩) hZ (fun V848 n849 _ _ hw850 hZ => ?_)
          obtain ⟨rfl, hq852, ⟨z855, z856, z857, ho858, hi859⟩⟩ := hw850
          have hP := hP.trans hq852 (by intro g h; simp_all)
          have b860 := hq_rng z855
          have b861 := hq_rng z856
          have b862 := hq_rng z857
          refine lv_iload_n hx hb dX13_readLine_171 rfl (lv_at hl 1 rfl) ?_
          refine lv_iconst (v := 4) hx hb dX13_readLine_172 (by decide) ?_
          refine lv_icmp_eq (tgt := 181) hx hb dX13_readLine_173 (by decide) (fun c863 => absurd c863 (by decide)) (fun c863 => ?_)
          refine lv_iload_n hx hb dX13_readLine_176 rfl (lv_at hl 1 rfl) ?_
          refine lv_iconst (v := 5) hx hb dX13_readLine_177 (by decide) ?_
          refine lv_icmp_ne (tgt := 194) hx hb dX13_readLine_178 (by decide) (fun c864 => ?_) (fun c864 => absurd c864 (by decide))
          refine lv_iload_n hx hb dX13_readLine_194 rfl (lv_at hl 1 rfl) ?_
          refine lv_iconst (v := 2) hx hb dX13_readLine_195 (by decide) ?_
          refine lv_icmp_eq (tgt := 204) hx hb dX13_readLine_196 (by decide) (fun c865 => ?_) (fun c865 => absurd (by decide) c865)
          refine lv_iload_n hx hb dX13_readLine_204 rfl (lv_at hl 1 rfl) ?_
          refine lv_iconst (v := 2) hx hb dX13_readLine_205 (by decide) ?_
          refine lv_icmp_eq (tgt := 219) hx hb dX13_readLine_206 (by decide) (fun c866 => ?_) (fun c866 => absurd (by decide) c866)
          refine lv_iload_n hx hb dX13_readLine_219 rfl (lv_at hl 1 rfl) ?_
          refine lv_iconst (v := 3) hx hb dX13_readLine_220 (by decide) ?_
          refine lv_icmp_ne (tgt := 229) hx hb dX13_readLine_221 (by decide) (fun c867 => ?_) (fun c867 => absurd c867 (by decide))
          refine lv_iload_n hx hb dX13_readLine_229 rfl (lv_at hl 1 rfl) ?_
          refine lv_if_eq (tgt := 248) hx hb dX13_readLine_230 (by decide) (fun c868 => absurd c868 (by decide)) (fun c868 => ?_)
          refine lv_iload_n hx hb dX13_readLine_233 rfl (lv_at hl 1 rfl) ?_
          refine lv_iconst (v := 1) hx hb dX13_readLine_234 (by decide) ?_
          refine lv_icmp_eq (tgt := 248) hx hb dX13_readLine_235 (by decide) (fun c869 => absurd c869 (by decide)) (fun c869 => ?_)
          refine lv_iload_n hx hb dX13_readLine_238 rfl (lv_at hl 1 rfl) ?_
          refine lv_iconst (v := 2) hx hb dX13_readLine_239 (by decide) ?_
          refine lv_icmp_eq (tgt := 248) hx hb dX13_readLine_240 (by decide) (fun c870 => ?_) (fun c870 => absurd (by decide) c870)
          refine lv_aload_n hx hb dX13_readLine_248 rfl (lv_at hl 2 rfl) ?_
          refine hp_get (v := .int (z857)) hx hb hts hown hZ ho858 fl_X13_83 rfl dX13_readLine_249 ?_
          refine lv_iconst (v := 3) hx hb dX13_readLine_252 (by decide) ?_
          refine lv_icmp_eq (tgt := 262) hx hb dX13_readLine_253 (by decide) (fun c871 => ?_) (fun c871 => ?_)
          · have c871 : (z857).toInt = (3 : Int) := hq_eqi.mp c871
            refine lv_iload_n hx hb dX13_readLine_262 rfl (lv_at hl 1 rfl) ?_
            refine lv_iconst (v := 4) hx hb dX13_readLine_263 (by decide) ?_
            refine lv_icmp_ne (tgt := 282) hx hb dX13_readLine_264 (by decide) (fun c872 => ?_) (fun c872 => absurd c872 (by decide))
            refine lv_iload_n hx hb dX13_readLine_282 rfl (lv_at hl 1 rfl) ?_
            refine lv_iconst (v := 1) hx hb dX13_readLine_283 (by decide) ?_
            refine lv_icmp_eq (tgt := 306) hx hb dX13_readLine_284 (by decide) (fun c873 => absurd c873 (by decide)) (fun c873 => ?_)
            have h3b := hm_SC.a3 (by assumption : hm_SC m_sz z855 z856 z857) (by omega)
            refine lv_aload_n hx hb dX13_readLine_287 rfl (lv_at hl 2 rfl) ?_
            refine hp_get (v := .int (z856)) hx hb hts hown hZ ho858 fl_X13_76 rfl dX13_readLine_288 ?_
            refine lv_aload_n hx hb dX13_readLine_291 rfl (lv_at hl 2 rfl) ?_
            refine hp_get (v := .int (z855)) hx hb hts hown hZ ho858 fl_X13_60 rfl dX13_readLine_292 ?_
            refine lv_isub hx hb dX13_readLine_295 ?_
            refine lv_topi (fun y874 ey875 => ?_)
            obtain ⟨k876, hk877, b878, b879⟩ := hq_sub (z856) (z855)
            rw [← ey875] at hk877 b878 b879
            have hk877 : (y874).toInt = (z856).toInt - (z855).toInt + k876 * 4294967296 := hk877
            obtain rfl : k876 = 0 := by omega
            refine lv_iconst (v := 2) hx hb dX13_readLine_296 (by decide) ?_
            refine lv_icmp_ne (tgt := 306) hx hb dX13_readLine_297 (by decide) (fun c880 => ?_) (fun c880 => ?_)
            · have c880 : ¬ (y874).toInt = (2 : Int) := fun h9 => c880 (hq_eqi.mpr h9)
              refine lv_aload_n hx hb dX13_readLine_306 rfl (lv_at hl 2 rfl) ?_
              refine hp_get (v := .ref (q + 14)) hx hb hts hown hZ ho858 fl_X13_41 rfl dX13_readLine_307 ?_
              refine lv_iload_n hx hb dX13_readLine_310 rfl (lv_at hl 0 rfl) ?_
              refine lv_aload_n hx hb dX13_readLine_311 rfl (lv_at hl 2 rfl) ?_
              refine lv_aload_n hx hb dX13_readLine_312 rfl (lv_at hl 2 rfl) ?_
              refine hp_get (v := .ref (q + 5)) hx hb hts hown hZ ho858 fl_X13_23 rfl dX13_readLine_313 ?_
              refine lv_iload_n hx hb dX13_readLine_316 rfl (lv_at hl 0 rfl) ?_
              have h3a := hm_SC.a3 (by assumption : hm_SC m_sz z855 z856 z857) (by omega)
              refine hp_calli (hp_runV (As := [.ref (q + 5), .int (y774)]) (rest := [.int (y774), .ref (q + 14)]) hx hb hml hown hts (t_X13_takeLetters l D cs B G  V848 n hP.1 q hR (mo) h_mo (q + 5) (hr_5 hR) (y774) ho858  (by omega) (by omega) (by omega) (by omega) (by omega) (by omega) (by omega) (by omega) (by assumption) (by omega) (by omega) (by omega)) hZ ho858 cv_X13_198 rfl rfl ⟨Nat.le_of_ble_eq_true rfl, Nat.le_of_ble_eq_true rfl⟩ rfl hl.1 rfl (Nat.le_of_ble_eq_true rfl) dX13_readLine_317 ⟨(Nat.le_of_ble_eq_true rfl), (Nat.le_of_ble_eq_true rfl)⟩) hZ (fun r884 V881 n882 _ _ hw883 hZ => ?_)
              obtain ⟨rfl, hq885, ⟨z887, z888, z889, ho890, hi891⟩, hr886⟩ := hw883
              have hP := hP.trans hq885 (by intro g h; simp_all)
              have b892 := hq_rng z887
              have b893 := hq_rng z888
              have b894 := hq_rng z889
              have b895 := hq_rng r884
              have fx896 : V881 (q + 14) = some (.inl (cs 1, 120, .inl (g824))) := (hq885.2 (q + 14) _ (hr_14 hR) rfl).trans ((hq852.2 (q + 14) _ (hr_14 hR) rfl).trans ((o846 (q + 14) (hq_ne q 14 16 (by decide))).trans ((o837 (q + 14) (hq_ne q 14 15 (by decide))).trans (fx827))))
              refine hp_iast hx hb hZ fx896 (hq_in (by omega) (by omega)) dX13_readLine_320 (fun V897 _ _ e898 o899 hZ => ?_)
              have e898 : V897 (q + 14) = some (.inl (cs 1, 120, .inl (upd (g824) ((y774 : Int32).toNatClampNeg) (r884)))) := e898
              have hP := hP.put (hr_14 hR) e898 o899 (hq_c21 (by omega) (hq_upd hf826 (show 0 ≤ _ ∧ _ ≤ 8 by constructor <;> omega))) rfl
              obtain ⟨g900, ge901⟩ : ∃ g9 : Nat → Int32, g9 = upd (g824) ((y774 : Int32).toNatClampNeg) (r884) := ⟨_, rfl⟩
              have fx903 : V897 (q + 14) = some (.inl (cs 1, 120, .inl (g900))) := by rw [ge901]; exact e898
              have hf902 := hq_rg hP.1 (hr_14 hR) fx903
              have b904 : (g900 (y774 : Int32).toNatClampNeg).toInt = (r884 : Int32).toInt := congrArg Int32.toInt ((congrFun ge901 _).trans hm_ue)
              refine lv_iload_n hx hb dX13_readLine_321 rfl (lv_at hl 1 rfl) ?_
              refine lv_if_eq (tgt := 330) hx hb dX13_readLine_322 (by decide) (fun c905 => absurd c905 (by decide)) (fun c905 => ?_)
              refine lv_iload_n hx hb dX13_readLine_325 rfl (lv_at hl 1 rfl) ?_
              refine lv_iconst (v := 2) hx hb dX13_readLine_326 (by decide) ?_
              refine lv_icmp_ne (tgt := 365) hx hb dX13_readLine_327 (by decide) (fun c906 => absurd (by decide) c906) (fun c906 => ?_)
              refine lv_aload_n hx hb dX13_readLine_330 rfl (lv_at hl 2 rfl) ?_
              refine va_ldcS (tx := (hp_so.getD 5 ("", 0, "")).2.2) (q := cs (100 + 5)) hx hb hown (hZ.2.2.2.2.2.2.2.2.2.2 5 (by decide)) dX13_readLine_331 ?_
              have fx913 : V897 (mo) = some (.inr (13, hm_o q (m_tp) (m_sz) (z887) (z888) (z889) (m_ft) (m_fa) (m_le) (m_fo) (m_as) (m_fd) (m_bc) (m_bg) (m_bs) (m_be) (m_b0) (m_b1) (m_cm) (m_hc))) := (o899 (mo) (hq_tne h_mo (hr_14 hR) (by simp))).trans (ho890)
              have fx921 : V897 (q + 10) = some (.inl (cs 1, 120, .inl (g785))) := (o899 (q + 10) (hq_ne q 10 14 (by decide))).trans ((hq885.2 (q + 10) _ (hr_10 hR) rfl).trans ((hq852.2 (q + 10) _ (hr_10 hR) rfl).trans ((o846 (q + 10) (hq_ne q 10 16 (by decide))).trans ((o837 (q + 10) (hq_ne q 10 15 (by decide))).trans ((o822 (q + 10) (hq_ne q 10 14 (by decide))).trans ((o816 (q + 10) (hq_ne q 10 13 (by decide))).trans ((o807 (q + 10) (hq_ne q 10 12 (by decide))).trans ((o798 (q + 10) (hq_ne q 10 11 (by decide))).trans (fx788)))))))))
              have fx922 : V897 (q + 2) = some (.inl (cs 1, 2, .inl (g10))) := (o899 (q + 2) (hq_ne q 2 14 (by decide))).trans ((hq885.2 (q + 2) _ (hr_2 hR) rfl).trans ((hq852.2 (q + 2) _ (hr_2 hR) rfl).trans ((o846 (q + 2) (hq_ne q 2 16 (by decide))).trans ((o837 (q + 2) (hq_ne q 2 15 (by decide))).trans ((o822 (q + 2) (hq_ne q 2 14 (by decide))).trans ((o816 (q + 2) (hq_ne q 2 13 (by decide))).trans ((o807 (q + 2) (hq_ne q 2 12 (by decide))).trans ((o798 (q + 2) (hq_ne q 2 11 (by decide))).trans ((o783 (q + 2) (hq_ne q 2 10 (by decide))).trans (fx764))))))))))
              refine hq_callx (hq_runV (As := [.ref (cs (100 + 5))]) (rest := []) hx hb hml hown hts (t_X13_need l D cs B G  V897 n hP.1 q hR (mo) h_mo 5 (by decide) fx913  (by omega) (by omega) (by omega) (by omega) (by omega) (by omega) (by omega) (by omega) (by assumption) ) hZ fx913 cv_X13_172 rfl rfl ⟨Nat.le_of_ble_eq_true rfl, Nat.le_of_ble_eq_true rfl⟩ rfl hl.1 rfl (Nat.le_of_ble_eq_true rfl) dX13_readLine_333 ⟨(Nat.le_of_ble_eq_true rfl), (Nat.le_of_ble_eq_true rfl)⟩) hZ hnx hlocks (by rintro x9 V9 n9 ⟨rfl, rfl, hq9, ⟨z914x, z915x, z916x, z917x, z918x, hox0, hix00⟩⟩; have hbxz914 := hq_rng z914x; have hbxz915 := hq_rng z915x; have hbxz916 := hq_rng z916x; have hbxz917 := hq_rng z917x; have hbxz918 := hq_rng z918x; exact ⟨rfl, rfl, hP.trans hq9 (by intro g h; simp_all), ⟨z914x, z915x, z916x, z917x, z918x, hox0, by assumption⟩, ((hm_JH.of eV1 eV5 eV9 fx921 fx903 fx922 (fun j hj => (congrFun ge786 j).trans (hm_ub (by omega) hj)) (fun j hj => ((congrFun ge901 j).trans (hm_ub (by omega) hj)).trans ((congrFun ge825 j).trans (hm_ub (by omega) hj))) rfl (hq_rg hI (hr_2 hR) eV9 0 (by decide)).2)).keep hR (fun x t hx hg => hq9.2 x t hx (by simp [hg]))⟩) (fun v9 V907 n908 _ _ hw909 hZ => ?_)
              obtain ⟨rfl, rfl, hq911, ⟨z914, z915, z916, z917, z918, ho919, hi920⟩⟩ := hw909
              refine W.eq (g2 := F0 m 336 ls []) rfl ?_
              have hP := hP.trans hq911 (by intro g h; simp_all)
              have b923 := hq_rng z914
              have b924 := hq_rng z915
              have b925 := hq_rng z916
              have b926 := hq_rng z917
              have b927 := hq_rng z918
              refine lv_aload_n hx hb dX13_readLine_336 rfl (lv_at hl 2 rfl) ?_
              refine hp_get (v := .int (z916)) hx hb hts hown hZ ho919 fl_X13_83 rfl dX13_readLine_337 ?_
              refine lv_iconst (v := 3) hx hb dX13_readLine_340 (by decide) ?_
              refine lv_icmp_eq (tgt := 350) hx hb dX13_readLine_341 (by decide) (fun c928 => ?_) (fun c928 => ?_)
              · have c928 : (z916).toInt = (3 : Int) := hq_eqi.mp c928
                refine lv_aload_n hx hb dX13_readLine_350 rfl (lv_at hl 2 rfl) ?_
                refine hp_get (v := .ref (q + 15)) hx hb hts hown hZ ho919 fl_X13_44 rfl dX13_readLine_351 ?_
                refine lv_iload_n hx hb dX13_readLine_354 rfl (lv_at hl 0 rfl) ?_
                refine lv_aload_n hx hb dX13_readLine_355 rfl (lv_at hl 2 rfl) ?_
                refine lv_aload_n hx hb dX13_readLine_356 rfl (lv_at hl 2 rfl) ?_
                refine hp_get (v := .ref (q + 6)) hx hb hts hown hZ ho919 fl_X13_26 rfl dX13_readLine_357 ?_
                refine lv_iload_n hx hb dX13_readLine_360 rfl (lv_at hl 0 rfl) ?_
                have h3a := hm_SC.a3 (by assumption : hm_SC m_sz z914 z915 z916) (by omega)
                refine hp_calli (hp_runV (As := [.ref (q + 6), .int (y774)]) (rest := [.int (y774), .ref (q + 15)]) hx hb hml hown hts (t_X13_takeLetters l D cs B G  V907 n hP.1 q hR (mo) h_mo (q + 6) (hr_6 hR) (y774) ho919  (by omega) (by omega) (by omega) (by omega) (by omega) (by omega) (by omega) (by omega) (by assumption) (by omega) (by omega) (by omega)) hZ ho919 cv_X13_198 rfl rfl ⟨Nat.le_of_ble_eq_true rfl, Nat.le_of_ble_eq_true rfl⟩ rfl hl.1 rfl (Nat.le_of_ble_eq_true rfl) dX13_readLine_361 ⟨(Nat.le_of_ble_eq_true rfl), (Nat.le_of_ble_eq_true rfl)⟩) hZ (fun r932 V929 n930 _ _ hw931 hZ => ?_)
                obtain ⟨rfl, hq933, ⟨z935, z936, z937, ho938, hi939⟩, hr934⟩ := hw931
                have hP := hP.trans hq933 (by intro g h; simp_all)
                have b940 := hq_rng z935
                have b941 := hq_rng z936
                have b942 := hq_rng z937
                have b943 := hq_rng r932
                obtain ⟨hN946, g945, eV944, hf947⟩ := hq_o21 hP.1 (hr_15 hR)
                refine hp_iast hx hb hZ eV944 (hq_in (by omega) (by omega)) dX13_readLine_364 (fun V948 _ _ e949 o950 hZ => ?_)
                have e949 : V948 (q + 15) = some (.inl (cs 1, 120, .inl (upd (g945) ((y774 : Int32).toNatClampNeg) (r932)))) := e949
                have hP := hP.put (hr_15 hR) e949 o950 (hq_c21 (by omega) (hq_upd hf947 (show 0 ≤ _ ∧ _ ≤ 8 by constructor <;> omega))) rfl
                refine lv_iload_n hx hb dX13_readLine_365 rfl (lv_at hl 1 rfl) ?_
                refine lv_iconst (v := 2) hx hb dX13_readLine_366 (by decide) ?_
                refine lv_icmp_ne (tgt := 390) hx hb dX13_readLine_367 (by decide) (fun c951 => absurd (by decide) c951) (fun c951 => ?_)
                refine lv_aload_n hx hb dX13_readLine_370 rfl (lv_at hl 2 rfl) ?_
                refine va_ldcS (tx := (hp_so.getD 8 ("", 0, "")).2.2) (q := cs (100 + 8)) hx hb hown (hZ.2.2.2.2.2.2.2.2.2.2 8 (by decide)) dX13_readLine_371 ?_
                have fx958 : V948 (mo) = some (.inr (13, hm_o q (m_tp) (m_sz) (z935) (z936) (z937) (z917) (z918) (m_le) (m_fo) (m_as) (m_fd) (m_bc) (m_bg) (m_bs) (m_be) (m_b0) (m_b1) (m_cm) (m_hc))) := (o950 (mo) (hq_tne h_mo (hr_15 hR) (by simp))).trans (ho938)
                refine hp_calli (hp_runV (As := [.ref (cs (100 + 8))]) (rest := []) hx hb hml hown hts (t_X13_is l D cs B G  V948 n hP.1 q hR (mo) h_mo 8 (by decide) fx958  (by omega) (by omega) (by omega) (by omega) (by omega) (by omega) (by omega) (by omega) (by assumption) ) hZ fx958 cv_X13_103 rfl rfl ⟨Nat.le_of_ble_eq_true rfl, Nat.le_of_ble_eq_true rfl⟩ rfl hl.1 rfl (Nat.le_of_ble_eq_true rfl) dX13_readLine_373 ⟨(Nat.le_of_ble_eq_true rfl), (Nat.le_of_ble_eq_true rfl)⟩) hZ (fun r955 V952 n953 _ _ hw954 hZ => ?_)
                obtain ⟨rfl, hq956, ho959, hr957⟩ := hw954
                have hP := hP.trans hq956 (fun _ _ => rfl)
                have b960 := hq_rng r955
                refine lv_if_eq (tgt := 390) hx hb dX13_readLine_376 (by decide) (fun c961 => ?_) (fun c961 => ?_)
                · have c961 : (r955).toInt = (0 : Int) := hq_eqi.mp c961
                  refine lv_aload_n hx hb dX13_readLine_390 rfl (lv_at hl 2 rfl) ?_
                  refine hp_get (v := .ref (q + 2)) hx hb hts hown hZ ho959 fl_X13_10 rfl dX13_readLine_391 ?_
                  refine lv_iconst (v := 1) hx hb dX13_readLine_394 (by decide) ?_
                  refine lv_dup2_11 hx hb dX13_readLine_395 rfl rfl ?_
                  have fx962 : V952 (q + 2) = some (.inl (cs 1, 2, .inl (g10))) := (hq956.2 (q + 2) _ (hr_2 hR) rfl).trans ((o950 (q + 2) (hq_ne q 2 15 (by decide))).trans ((hq933.2 (q + 2) _ (hr_2 hR) rfl).trans ((hq911.2 (q + 2) _ (hr_2 hR) rfl).trans (fx922))))
                  refine hp_iald hx hb hZ fx962 (by unfold vp_in; decide) dX13_readLine_396 ?_
                  refine lv_topi (fun y963 ey964 => ?_)
                  have b966 : (y963).toInt = ((g10) (1 : Int32).toNatClampNeg).toInt := by rw [ey964]
                  have b965 : hq_ir (hq_lo 8) (hq_hi 8) y963 := by rw [ey964]; exact hf12 _ (by decide)
                  have b965 : 0 ≤ (y963).toInt ∧ (y963).toInt ≤ 60 := b965
                  refine lv_iconst (v := 1) hx hb dX13_readLine_397 (by decide) ?_
                  refine lv_iadd hx hb dX13_readLine_398 ?_
                  refine lv_topi (fun y967 ey968 => ?_)
                  obtain ⟨k969, hk970, b971, b972⟩ := hq_add (y963) (1)
                  rw [← ey968] at hk970 b971 b972
                  have hk970 : (y967).toInt = (y963).toInt + (1 : Int) + k969 * 4294967296 := hk970
                  obtain rfl : k969 = 0 := by omega
                  refine hp_iast hx hb hZ fx962 (by unfold vp_in; decide) dX13_readLine_399 (fun V973 _ _ e974 o975 hZ => ?_)
                  have e974 : V973 (q + 2) = some (.inl (cs 1, 2, .inl (upd (g10) ((1 : Int32).toNatClampNeg) (y967)))) := e974
                  have hP := hP.put (hr_2 hR) e974 o975 (hq_c21 (by omega) (hq_upd hf12 (show 0 ≤ _ ∧ _ ≤ 60 by constructor <;> omega))) rfl
                  obtain ⟨g976, ge977⟩ : ∃ g9 : Nat → Int32, g9 = upd (g10) ((1 : Int32).toNatClampNeg) (y967) := ⟨_, rfl⟩
                  have fx979 : V973 (q + 2) = some (.inl (cs 1, 2, .inl (g976))) := by rw [ge977]; exact e974
                  have hf978 := hq_rg hP.1 (hr_2 hR) fx979
                  have b980 : (g976 (1 : Int32).toNatClampNeg).toInt = (y967 : Int32).toInt := congrArg Int32.toInt ((congrFun ge977 _).trans hm_ue)
                  have fx981 : V973 (mo) = some (.inr (13, hm_o q (m_tp) (m_sz) (z935) (z936) (z937) (z917) (z918) (m_le) (m_fo) (m_as) (m_fd) (m_bc) (m_bg) (m_bs) (m_be) (m_b0) (m_b1) (m_cm) (m_hc))) := (o975 (mo) (hq_tne h_mo (hr_2 hR) (by simp))).trans (ho959)
                  have fx982 : V973 (q + 10) = some (.inl (cs 1, 120, .inl (g785))) := (o975 (q + 10) (hq_ne q 10 2 (by decide))).trans ((hq956.2 (q + 10) _ (hr_10 hR) rfl).trans ((o950 (q + 10) (hq_ne q 10 15 (by decide))).trans ((hq933.2 (q + 10) _ (hr_10 hR) rfl).trans ((hq911.2 (q + 10) _ (hr_10 hR) rfl).trans (fx921)))))
                  have fx983 : V973 (q + 14) = some (.inl (cs 1, 120, .inl (g900))) := (o975 (q + 14) (hq_ne q 14 2 (by decide))).trans ((hq956.2 (q + 14) _ (hr_14 hR) rfl).trans ((o950 (q + 14) (hq_ne q 14 15 (by decide))).trans ((hq933.2 (q + 14) _ (hr_14 hR) rfl).trans ((hq911.2 (q + 14) _ (hr_14 hR) rfl).trans (fx903)))))
                  exact hq_vret hx hb hr hlocks hZ ⟨rfl, rfl, hP, ⟨z935, z936, z937, z917, z918, fx981, by assumption⟩, ⟨(hm_JH.of eV1 eV5 eV9 fx982 fx983 fx979 (fun j hj => (congrFun ge786 j).trans (hm_ub (by omega) hj)) (fun j hj => ((congrFun ge901 j).trans (hm_ub (by omega) hj)).trans ((congrFun ge825 j).trans (hm_ub (by omega) hj))) ((congrFun ge977 0).trans (hm_un (by decide))) (hq_rg hI (hr_2 hR) eV9 0 (by decide)).2), (hm_JJ.of (l := y774) eV1 eV5 eV9 fx982 fx983 fx979 (by omega) (by omega) (fun j hj => (congrFun ge786 j).trans (hm_un hj)) (fun j hj => ((congrFun ge901 j).trans (hm_un hj)).trans ((congrFun ge825 j).trans (hm_un hj))) (by rw [show g976 (1 : Int32).toNatClampNeg = _ from (congrFun ge977 _).trans hm_ue]; omega) (fun _ => by rw [show g900 y774.toNatClampNeg = _ from (congrFun ge901 _).trans hm_ue]; omega))⟩⟩ dX13_readLine_400
                · have c961 : ¬ (r955).toInt = (0 : Int) := fun h9 => c961 (hq_eqi.mpr h9)
                  refine lv_aload_n hx hb dX13_readLine_379 rfl (lv_at hl 2 rfl) ?_
                  refine hp_get (v := .ref (q + 16)) hx hb hts hown hZ ho959 fl_X13_47 rfl dX13_readLine_380 ?_
                  refine lv_iload_n hx hb dX13_readLine_383 rfl (lv_at hl 0 rfl) ?_
                  refine lv_iconst (v := 1) hx hb dX13_readLine_384 (by decide) ?_
                  obtain ⟨hN986, g985, eV984, hf987⟩ := hq_o21 hP.1 (hr_16 hR)
                  refine hp_iast hx hb hZ eV984 (hq_in (by omega) (by omega)) dX13_readLine_385 (fun V988 _ _ e989 o990 hZ => ?_)
                  have e989 : V988 (q + 16) = some (.inl (cs 1, 120, .inl (upd (g985) ((y774 : Int32).toNatClampNeg) (1)))) := e989
                  have hl991 : (1 : Int32).toInt = 1 := by decide
                  have hP := hP.put (hr_16 hR) e989 o990 (hq_c21 (by omega) (hq_upd hf987 (show 0 ≤ _ ∧ _ ≤ 29 by constructor <;> omega))) rfl
                  refine lv_aload_n hx hb dX13_readLine_386 rfl (lv_at hl 2 rfl) ?_
                  have fx998 : V988 (mo) = some (.inr (13, hm_o q (m_tp) (m_sz) (z935) (z936) (z937) (z917) (z918) (m_le) (m_fo) (m_as) (m_fd) (m_bc) (m_bg) (m_bs) (m_be) (m_b0) (m_b1) (m_cm) (m_hc))) := (o990 (mo) (hq_tne h_mo (hr_16 hR) (by simp))).trans (ho959)
                  refine hp_callv (hp_runV (As := []) (rest := []) hx hb hml hown hts (t_X13_scan l D cs B G  V988 n hP.1 q hR (mo) h_mo fx998  (by omega) (by omega) (by omega) (by omega) (by omega) (by omega) (by omega) (by omega) (hm_SC.s0 (by assumption)) (hm_SC.s1 (by assumption) (by first | omega | (have h8 := hm_Is.hd (by assumption) (by omega); omega)))) hZ fx998 cv_X13_111 rfl rfl ⟨Nat.le_of_ble_eq_true rfl, Nat.le_of_ble_eq_true rfl⟩ rfl hl.1 rfl (Nat.le_of_ble_eq_true rfl) dX13_readLine_387 ⟨(Nat.le_of_ble_eq_true rfl), (Nat.le_of_ble_eq_true rfl)⟩) hZ (fun V992 n993 _ _ hw994 hZ => ?_)
                  obtain ⟨rfl, hq996, ⟨z999, z1000, z1001, ho1002, hi1003⟩⟩ := hw994
                  have hP := hP.trans hq996 (by intro g h; simp_all)
                  have b1004 := hq_rng z999
                  have b1005 := hq_rng z1000
                  have b1006 := hq_rng z1001
                  refine lv_aload_n hx hb dX13_readLine_390 rfl (lv_at hl 2 rfl) ?_
                  refine hp_get (v := .ref (q + 2)) hx hb hts hown hZ ho1002 fl_X13_10 rfl dX13_readLine_391 ?_
                  refine lv_iconst (v := 1) hx hb dX13_readLine_394 (by decide) ?_
                  refine lv_dup2_11 hx hb dX13_readLine_395 rfl rfl ?_
                  have fx1007 : V992 (q + 2) = some (.inl (cs 1, 2, .inl (g10))) := (hq996.2 (q + 2) _ (hr_2 hR) rfl).trans ((o990 (q + 2) (hq_ne q 2 16 (by decide))).trans ((hq956.2 (q + 2) _ (hr_2 hR) rfl).trans ((o950 (q + 2) (hq_ne q 2 15 (by decide))).trans ((hq933.2 (q + 2) _ (hr_2 hR) rfl).trans ((hq911.2 (q + 2) _ (hr_2 hR) rfl).trans (fx922))))))
                  refine hp_iald hx hb hZ fx1007 (by unfold vp_in; decide) dX13_readLine_396 ?_
                  refine lv_topi (fun y1008 ey1009 => ?_)
                  have b1011 : (y1008).toInt = ((g10) (1 : Int32).toNatClampNeg).toInt := by rw [ey1009]
                  have b1010 : hq_ir (hq_lo 8) (hq_hi 8) y1008 := by rw [ey1009]; exact hf12 _ (by decide)
                  have b1010 : 0 ≤ (y1008).toInt ∧ (y1008).toInt ≤ 60 := b1010
                  refine lv_iconst (v := 1) hx hb dX13_readLine_397 (by decide) ?_
                  refine lv_iadd hx hb dX13_readLine_398 ?_
                  refine lv_topi (fun y1012 ey1013 => ?_)
                  obtain ⟨k1014, hk1015, b1016, b1017⟩ := hq_add (y1008) (1)
                  rw [← ey1013] at hk1015 b1016 b1017
                  have hk1015 : (y1012).toInt = (y1008).toInt + (1 : Int) + k1014 * 4294967296 := hk1015
                  obtain rfl : k1014 = 0 := by omega
                  refine hp_iast hx hb hZ fx1007 (by unfold vp_in; decide) dX13_readLine_399 (fun V1018 _ _ e1019 o1020 hZ => ?_)
                  have e1019 : V1018 (q + 2) = some (.inl (cs 1, 2, .inl (upd (g10) ((1 : Int32).toNatClampNeg) (y1012)))) := e1019
                  have hP := hP.put (hr_2 hR) e1019 o1020 (hq_c21 (by omega) (hq_upd hf12 (show 0 ≤ _ ∧ _ ≤ 60 by constructor <;> omega))) rfl
                  obtain ⟨g1021, ge1022⟩ : ∃ g9 : Nat → Int32, g9 = upd (g10) ((1 : Int32).toNatClampNeg) (y1012) := ⟨_, rfl⟩
                  have fx1024 : V1018 (q + 2) = some (.inl (cs 1, 2, .inl (g1021))) := by rw [ge1022]; exact e1019
                  have hf1023 := hq_rg hP.1 (hr_2 hR) fx1024
                  have b1025 : (g1021 (1 : Int32).toNatClampNeg).toInt = (y1012 : Int32).toInt := congrArg Int32.toInt ((congrFun ge1022 _).trans hm_ue)
                  have fx1026 : V1018 (mo) = some (.inr (13, hm_o q (m_tp) (m_sz) (z999) (z1000) (z1001) (z917) (z918) (m_le) (m_fo) (m_as) (m_fd) (m_bc) (m_bg) (m_bs) (m_be) (m_b0) (m_b1) (m_cm) (m_hc))) := (o1020 (mo) (hq_tne h_mo (hr_2 hR) (by simp))).trans (ho1002)
                  have fx1027 : V1018 (q + 10) = some (.inl (cs 1, 120, .inl (g785))) := (o1020 (q + 10) (hq_ne q 10 2 (by decide))).trans ((hq996.2 (q + 10) _ (hr_10 hR) rfl).trans ((o990 (q + 10) (hq_ne q 10 16 (by decide))).trans ((hq956.2 (q + 10) _ (hr_10 hR) rfl).trans ((o950 (q + 10) (hq_ne q 10 15 (by decide))).trans ((hq933.2 (q + 10) _ (hr_10 hR) rfl).trans ((hq911.2 (q + 10) _ (hr_10 hR) rfl).trans (fx921)))))))
                  have fx1028 : V1018 (q + 14) = some (.inl (cs 1, 120, .inl (g900))) := (o1020 (q + 14) (hq_ne q 14 2 (by decide))).trans ((hq996.2 (q + 14) _ (hr_14 hR) rfl).trans ((o990 (q + 14) (hq_ne q 14 16 (by decide))).trans ((hq956.2 (q + 14) _ (hr_14 hR) rfl).trans ((o950 (q + 14) (hq_ne q 14 15 (by decide))).trans ((hq933.2 (q + 14) _ (hr_14 hR) rfl).trans ((hq911.2 (q + 14) _ (hr_14 hR) rfl).trans (fx903)))))))
                  exact hq_vret hx hb hr hlocks hZ ⟨rfl, rfl, hP, ⟨z999, z1000, z1001, z917, z918, fx1026, by assumption⟩, ⟨(hm_JH.of eV1 eV5 eV9 fx1027 fx1028 fx1024 (fun j hj => (congrFun ge786 j).trans (hm_ub (by omega) hj)) (fun j hj => ((congrFun ge901 j).trans (hm_ub (by omega) hj)).trans ((congrFun ge825 j).trans (hm_ub (by omega) hj))) ((congrFun ge1022 0).trans (hm_un (by decide))) (hq_rg hI (hr_2 hR) eV9 0 (by decide)).2), (hm_JJ.of (l := y774) eV1 eV5 eV9 fx1027 fx1028 fx1024 (by omega) (by omega) (fun j hj => (congrFun ge786 j).trans (hm_un hj)) (fun j hj => ((congrFun ge901 j).trans (hm_un hj)).trans ((congrFun ge825 j).trans (hm_un hj))) (by rw [show g1021 (1 : Int32).toNatClampNeg = _ from (congrFun ge1022 _).trans hm_ue]; omega) (fun _ => by rw [show g900 y774.toNatClampNeg = _ from (congrFun ge901 _).trans hm_ue]; omega))⟩⟩ dX13_readLine_400
              · have c928 : ¬ (z916).toInt = (3 : Int) := fun h9 => c928 (hq_eqi.mpr h9)
                refine lv_aload_n hx hb dX13_readLine_344 rfl (lv_at hl 2 rfl) ?_
                refine lv_iconst (v := 1) hx hb dX13_readLine_345 (by decide) ?_
                have hl1038 : (1 : Int32).toInt = 1 := by decide
                refine hp_callq (hp_runV (As := [.int (1)]) (rest := []) hx hb hml hown hts (t_X13_wrong l D cs B G  V907 n hP.1 q hR (mo) h_mo (1) ho919  (by omega) (by omega) (by omega) (by omega) (by omega) (by omega) (by omega) (by omega) ) hZ ho919 cv_X13_107 rfl rfl ⟨Nat.le_of_ble_eq_true rfl, Nat.le_of_ble_eq_true rfl⟩ rfl hl.1 rfl (Nat.le_of_ble_eq_true rfl) dX13_readLine_346 ⟨(Nat.le_of_ble_eq_true rfl), (Nat.le_of_ble_eq_true rfl)⟩) hZ (fun r1032 V1029 n1030 _ _ hw1031 hZ => ?_)
                obtain ⟨rfl, hq1033, ⟨z1035, z1036, ho1037⟩, hr1034⟩ := hw1031
                have hP := hP.trans hq1033 (by intro g h; simp_all)
                have b1039 := hq_rng z1035
                have b1040 := hq_rng z1036
                subst hr1034
                refine W.eq (g2 := F0 m 349 ls [.ref (q + 19)]) rfl ?_
                have fx1041 : V1029 (q + 10) = some (.inl (cs 1, 120, .inl (g785))) := (hq1033.2 (q + 10) _ (hr_10 hR) rfl).trans ((hq911.2 (q + 10) _ (hr_10 hR) rfl).trans (fx921))
                have fx1042 : V1029 (q + 14) = some (.inl (cs 1, 120, .inl (g900))) := (hq1033.2 (q + 14) _ (hr_14 hR) rfl).trans ((hq911.2 (q + 14) _ (hr_14 hR) rfl).trans (fx903))
                have fx1043 : V1029 (q + 2) = some (.inl (cs 1, 2, .inl (g10))) := (hq1033.2 (q + 2) _ (hr_2 hR) rfl).trans ((hq911.2 (q + 2) _ (hr_2 hR) rfl).trans (fx922))
                exact hq_athrow hx hb hnx hlocks hZ ⟨rfl, rfl, hP, ⟨z914, z915, z916, z1035, z1036, ho1037, by assumption⟩, (hm_JH.of eV1 eV5 eV9 fx1041 fx1042 fx1043 (fun j hj => (congrFun ge786 j).trans (hm_ub (by omega) hj)) (fun j hj => ((congrFun ge901 j).trans (hm_ub (by omega) hj)).trans ((congrFun ge825 j).trans (hm_ub (by omega) hj))) rfl (hq_rg hI (hr_2 hR) eV9 0 (by decide)).2)⟩ dX13_readLine_349
            · have c880 : (y874).toInt = (2 : Int) := hq_eqi.mp c880
              refine lv_aload_n hx hb dX13_readLine_300 rfl (lv_at hl 2 rfl) ?_
              refine lv_iconst (v := 5) hx hb dX13_readLine_301 (by decide) ?_
              have hl1053 : (5 : Int32).toInt = 5 := by decide
              refine hp_callq (hp_runV (As := [.int (5)]) (rest := []) hx hb hml hown hts (t_X13_wrong l D cs B G  V848 n hP.1 q hR (mo) h_mo (5) ho858  (by omega) (by omega) (by omega) (by omega) (by omega) (by omega) (by omega) (by omega) ) hZ ho858 cv_X13_107 rfl rfl ⟨Nat.le_of_ble_eq_true rfl, Nat.le_of_ble_eq_true rfl⟩ rfl hl.1 rfl (Nat.le_of_ble_eq_true rfl) dX13_readLine_302 ⟨(Nat.le_of_ble_eq_true rfl), (Nat.le_of_ble_eq_true rfl)⟩) hZ (fun r1047 V1044 n1045 _ _ hw1046 hZ => ?_)
              obtain ⟨rfl, hq1048, ⟨z1050, z1051, ho1052⟩, hr1049⟩ := hw1046
              have hP := hP.trans hq1048 (by intro g h; simp_all)
              have b1054 := hq_rng z1050
              have b1055 := hq_rng z1051
              subst hr1049
              refine W.eq (g2 := F0 m 305 ls [.ref (q + 19)]) rfl ?_
              have fx1056 : V1044 (q + 10) = some (.inl (cs 1, 120, .inl (g785))) := (hq1048.2 (q + 10) _ (hr_10 hR) rfl).trans ((hq852.2 (q + 10) _ (hr_10 hR) rfl).trans ((o846 (q + 10) (hq_ne q 10 16 (by decide))).trans ((o837 (q + 10) (hq_ne q 10 15 (by decide))).trans ((o822 (q + 10) (hq_ne q 10 14 (by decide))).trans ((o816 (q + 10) (hq_ne q 10 13 (by decide))).trans ((o807 (q + 10) (hq_ne q 10 12 (by decide))).trans ((o798 (q + 10) (hq_ne q 10 11 (by decide))).trans (fx788))))))))
              have fx1057 : V1044 (q + 14) = some (.inl (cs 1, 120, .inl (g824))) := (hq1048.2 (q + 14) _ (hr_14 hR) rfl).trans ((hq852.2 (q + 14) _ (hr_14 hR) rfl).trans ((o846 (q + 14) (hq_ne q 14 16 (by decide))).trans ((o837 (q + 14) (hq_ne q 14 15 (by decide))).trans (fx827))))
              have fx1058 : V1044 (q + 2) = some (.inl (cs 1, 2, .inl (g10))) := (hq1048.2 (q + 2) _ (hr_2 hR) rfl).trans ((hq852.2 (q + 2) _ (hr_2 hR) rfl).trans ((o846 (q + 2) (hq_ne q 2 16 (by decide))).trans ((o837 (q + 2) (hq_ne q 2 15 (by decide))).trans ((o822 (q + 2) (hq_ne q 2 14 (by decide))).trans ((o816 (q + 2) (hq_ne q 2 13 (by decide))).trans ((o807 (q + 2) (hq_ne q 2 12 (by decide))).trans ((o798 (q + 2) (hq_ne q 2 11 (by decide))).trans ((o783 (q + 2) (hq_ne q 2 10 (by decide))).trans (fx764)))))))))
              exact hq_athrow hx hb hnx hlocks hZ ⟨rfl, rfl, hP, ⟨z855, z856, z857, z1050, z1051, ho1052, by assumption⟩, (hm_JH.of eV1 eV5 eV9 fx1056 fx1057 fx1058 (fun j hj => (congrFun ge786 j).trans (hm_ub (by omega) hj)) (fun j hj => (congrFun ge825 j).trans (hm_ub (by omega) hj)) rfl (hq_rg hI (hr_2 hR) eV9 0 (by decide)).2)⟩ dX13_readLine_305
          · have c871 : ¬ (z857).toInt = (3 : Int) := fun h9 => c871 (hq_eqi.mpr h9)
            refine lv_aload_n hx hb dX13_readLine_256 rfl (lv_at hl 2 rfl) ?_
            refine lv_iconst (v := 1) hx hb dX13_readLine_257 (by decide) ?_
            have hl1068 : (1 : Int32).toInt = 1 := by decide
            refine hp_callq (hp_runV (As := [.int (1)]) (rest := []) hx hb hml hown hts (t_X13_wrong l D cs B G  V848 n hP.1 q hR (mo) h_mo (1) ho858  (by omega) (by omega) (by omega) (by omega) (by omega) (by omega) (by omega) (by omega) ) hZ ho858 cv_X13_107 rfl rfl ⟨Nat.le_of_ble_eq_true rfl, Nat.le_of_ble_eq_true rfl⟩ rfl hl.1 rfl (Nat.le_of_ble_eq_true rfl) dX13_readLine_258 ⟨(Nat.le_of_ble_eq_true rfl), (Nat.le_of_ble_eq_true rfl)⟩) hZ (fun r1062 V1059 n1060 _ _ hw1061 hZ => ?_)
            obtain ⟨rfl, hq1063, ⟨z1065, z1066, ho1067⟩, hr1064⟩ := hw1061
            have hP := hP.trans hq1063 (by intro g h; simp_all)
            have b1069 := hq_rng z1065
            have b1070 := hq_rng z1066
            subst hr1064
            refine W.eq (g2 := F0 m 261 ls [.ref (q + 19)]) rfl ?_
            have fx1071 : V1059 (q + 10) = some (.inl (cs 1, 120, .inl (g785))) := (hq1063.2 (q + 10) _ (hr_10 hR) rfl).trans ((hq852.2 (q + 10) _ (hr_10 hR) rfl).trans ((o846 (q + 10) (hq_ne q 10 16 (by decide))).trans ((o837 (q + 10) (hq_ne q 10 15 (by decide))).trans ((o822 (q + 10) (hq_ne q 10 14 (by decide))).trans ((o816 (q + 10) (hq_ne q 10 13 (by decide))).trans ((o807 (q + 10) (hq_ne q 10 12 (by decide))).trans ((o798 (q + 10) (hq_ne q 10 11 (by decide))).trans (fx788))))))))
            have fx1072 : V1059 (q + 14) = some (.inl (cs 1, 120, .inl (g824))) := (hq1063.2 (q + 14) _ (hr_14 hR) rfl).trans ((hq852.2 (q + 14) _ (hr_14 hR) rfl).trans ((o846 (q + 14) (hq_ne q 14 16 (by decide))).trans ((o837 (q + 14) (hq_ne q 14 15 (by decide))).trans (fx827))))
            have fx1073 : V1059 (q + 2) = some (.inl (cs 1, 2, .inl (g10))) := (hq1063.2 (q + 2) _ (hr_2 hR) rfl).trans ((hq852.2 (q + 2) _ (hr_2 hR) rfl).trans ((o846 (q + 2) (hq_ne q 2 16 (by decide))).trans ((o837 (q + 2) (hq_ne q 2 15 (by decide))).trans ((o822 (q + 2) (hq_ne q 2 14 (by decide))).trans ((o816 (q + 2) (hq_ne q 2 13 (by decide))).trans ((o807 (q + 2) (hq_ne q 2 12 (by decide))).trans ((o798 (q + 2) (hq_ne q 2 11 (by decide))).trans ((o783 (q + 2) (hq_ne q 2 10 (by decide))).trans (fx764)))))))))
            exact hq_athrow hx hb hnx hlocks hZ ⟨rfl, rfl, hP, ⟨z855, z856, z857, z1065, z1066, ho1067, by assumption⟩, (hm_JH.of eV1 eV5 eV9 fx1071 fx1072 fx1073 (fun j hj => (congrFun ge786 j).trans (hm_ub (by omega) hj)) (fun j hj => (congrFun ge825 j).trans (hm_ub (by omega) hj)) rfl (hq_rg hI (hr_2 hR) eV9 0 (by decide)).2)⟩ dX13_readLine_261
        · have c769 : (y765).toInt = (60 : Int) := hq_eqi.mp c769
          refine lv_aload_n hx hb dX13_readLine_102 rfl (lv_at hl 1 rfl) ?_
          refine lv_iconst (v := 4) hx hb dX13_readLine_103 (by decide) ?_
          have hl1083 : (4 : Int32).toInt = 4 := by decide
          refine hp_callq (hp_runV (As := [.int (4)]) (rest := []) hx hb hml hown hts (t_X13_wrong l D cs B G  V31 n hP.1 q hR (mo) h_mo (4) ho37  (by omega) (by omega) (by omega) (by omega) (by omega) (by omega) (by omega) (by omega) ) hZ ho37 cv_X13_107 rfl rfl ⟨Nat.le_of_ble_eq_true rfl, Nat.le_of_ble_eq_true rfl⟩ rfl hl.1 rfl (Nat.le_of_ble_eq_true rfl) dX13_readLine_104 ⟨(Nat.le_of_ble_eq_true rfl), (Nat.le_of_ble_eq_true rfl)⟩) hZ (fun r1077 V1074 n1075 _ _ hw1076 hZ => ?_)
          obtain ⟨rfl, hq1078, ⟨z1080, z1081, ho1082⟩, hr1079⟩ := hw1076
          have hP := hP.trans hq1078 (by intro g h; simp_all)
          have b1084 := hq_rng z1080
          have b1085 := hq_rng z1081
          subst hr1079
          refine W.eq (g2 := F0 m 107 ls [.ref (q + 19)]) rfl ?_
          have fx1086 : V1074 (q + 10) = some (.inl (cs 1, 120, .inl (g2))) := (hq1078.2 (q + 10) _ (hr_10 hR) rfl).trans ((hq35.2 (q + 10) _ (hr_10 hR) rfl).trans ((hq26.2 (q + 10) _ (hr_10 hR) rfl).trans ((hq17.2 (q + 10) _ (hr_10 hR) rfl).trans (eV1))))
          have fx1087 : V1074 (q + 14) = some (.inl (cs 1, 120, .inl (g6))) := (hq1078.2 (q + 14) _ (hr_14 hR) rfl).trans ((hq35.2 (q + 14) _ (hr_14 hR) rfl).trans ((hq26.2 (q + 14) _ (hr_14 hR) rfl).trans ((hq17.2 (q + 14) _ (hr_14 hR) rfl).trans (eV5))))
          have fx1088 : V1074 (q + 2) = some (.inl (cs 1, 2, .inl (g10))) := (hq1078.2 (q + 2) _ (hr_2 hR) rfl).trans (fx764)
          exact hq_athrow hx hb hnx hlocks hZ ⟨rfl, rfl, hP, ⟨m_fr, m_bh, m_hd, z1080, z1081, ho1082, by assumption⟩, (hm_JH.of eV1 eV5 eV9 fx1086 fx1087 fx1088 (fun j hj => rfl) (fun j hj => rfl) rfl (hq_rg hI (hr_2 hR) eV9 0 (by decide)).2)⟩ dX13_readLine_107
    · have c30 : ¬ (r25).toInt = (0 : Int) := fun h9 => c30 (hq_eqi.mpr h9)
      refine lv_iconst (v := 1) hx hb dX13_readLine_22 (by decide) ?_
      refine lv_goto (tgt := 79) hx hb dX13_readLine_23 (by decide) ?_
      refine lv_istore_n (lv' := [(1, .int (1)), (0, .ref (mo))]) hx hb dX13_readLine_79 rfl hl (by decide) rfl (fun ls hl => ?_)
      refine lv_iload_n hx hb dX13_readLine_80 rfl (lv_at hl 0 rfl) ?_
      refine lv_iconst (v := -1) hx hb dX13_readLine_81 (by decide) ?_
      refine lv_icmp_ne (tgt := 91) hx hb dX13_readLine_82 (by decide) (fun c1089 => ?_) (fun c1089 => absurd c1089 (by decide))
      refine lv_aload_n hx hb dX13_readLine_91 rfl (lv_at hl 1 rfl) ?_
      refine hp_get (v := .ref (q + 2)) hx hb hts hown hZ ho28 fl_X13_10 rfl dX13_readLine_92 ?_
      refine lv_iconst (v := 1) hx hb dX13_readLine_95 (by decide) ?_
      have fx1090 : V22 (q + 2) = some (.inl (cs 1, 2, .inl (g10))) := (hq26.2 (q + 2) _ (hr_2 hR) rfl).trans ((hq17.2 (q + 2) _ (hr_2 hR) rfl).trans (eV9))
      refine hp_iald hx hb hZ fx1090 (by unfold vp_in; decide) dX13_readLine_96 ?_
      refine lv_topi (fun y1091 ey1092 => ?_)
      have b1094 : (y1091).toInt = ((g10) (1 : Int32).toNatClampNeg).toInt := by rw [ey1092]
      have b1093 : hq_ir (hq_lo 8) (hq_hi 8) y1091 := by rw [ey1092]; exact hf12 _ (by decide)
      have b1093 : 0 ≤ (y1091).toInt ∧ (y1091).toInt ≤ 60 := b1093
      refine lv_bipush (v := 60) hx hb dX13_readLine_97 (by decide) ?_
      refine lv_icmp_ne (tgt := 108) hx hb dX13_readLine_99 (by decide) (fun c1095 => ?_) (fun c1095 => ?_)
      · have c1095 : ¬ (y1091).toInt = (60 : Int) := fun h9 => c1095 (hq_eqi.mpr h9)
        refine lv_bipush (v := 60) hx hb dX13_readLine_108 (by decide) ?_
        refine lv_aload_n hx hb dX13_readLine_110 rfl (lv_at hl 1 rfl) ?_
        refine hp_get (v := .ref (q + 2)) hx hb hts hown hZ ho28 fl_X13_10 rfl dX13_readLine_111 ?_
        refine lv_iconst (v := 1) hx hb dX13_readLine_114 (by decide) ?_
        refine hp_iald hx hb hZ fx1090 (by unfold vp_in; decide) dX13_readLine_115 ?_
        refine lv_topi (fun y1096 ey1097 => ?_)
        have b1099 : (y1096).toInt = ((g10) (1 : Int32).toNatClampNeg).toInt := by rw [ey1097]
        have b1098 : hq_ir (hq_lo 8) (hq_hi 8) y1096 := by rw [ey1097]; exact hf12 _ (by decide)
        have b1098 : 0 ≤ (y1096).toInt ∧ (y1096).toInt ≤ 60 := b1098
        refine lv_iadd hx hb dX13_readLine_116 ?_
        refine lv_topi (fun y1100 ey1101 => ?_)
        obtain ⟨k1102, hk1103, b1104, b1105⟩ := hq_add (60) (y1096)
        rw [← ey1101] at hk1103 b1104 b1105
        have hk1103 : (y1100).toInt = (60 : Int) + (y1096).toInt + k1102 * 4294967296 := hk1103
        obtain rfl : k1102 = 0 := by omega
        refine lv_istore_n (lv' := [(2, .int (y1100)), (1, .int (1)), (0, .ref (mo))]) hx hb dX13_readLine_117 rfl hl (by decide) rfl (fun ls hl => ?_)
        refine lv_aload_n hx hb dX13_readLine_118 rfl (lv_at hl 2 rfl) ?_
        refine hp_get (v := .ref (q + 10)) hx hb hts hown hZ ho28 fl_X13_29 rfl dX13_readLine_119 ?_
        refine lv_iload_n hx hb dX13_readLine_122 rfl (lv_at hl 0 rfl) ?_
        refine lv_iload_n hx hb dX13_readLine_123 rfl (lv_at hl 1 rfl) ?_
        have fx1106 : V22 (q + 10) = some (.inl (cs 1, 120, .inl (g2))) := (hq26.2 (q + 10) _ (hr_10 hR) rfl).trans ((hq17.2 (q + 10) _ (hr_10 hR) rfl).trans (eV1))
        refine hp_iast hx hb hZ fx1106 (hq_in (by omega) (by omega)) dX13_readLine_124 (fun V1107 _ _ e1108 o1109 hZ => ?_)
        have e1108 : V1107 (q + 10) = some (.inl (cs 1, 120, .inl (upd (g2) ((y1100 : Int32).toNatClampNeg) (1)))) := e1108
        have hl1110 : (1 : Int32).toInt = 1 := by decide
        have hP := hP.put (hr_10 hR) e1108 o1109 (hq_c21 (by omega) (hq_upd hf4 (hq_rng _))) rfl
        obtain ⟨g1111, ge1112⟩ : ∃ g9 : Nat → Int32, g9 = upd (g2) ((y1100 : Int32).toNatClampNeg) (1) := ⟨_, rfl⟩
        have fx1114 : V1107 (q + 10) = some (.inl (cs 1, 120, .inl (g1111))) := by rw [ge1112]; exact e1108
        have hf1113 := hq_rg hP.1 (hr_10 hR) fx1114
        have b1115 : (g1111 (y1100 : Int32).toNatClampNeg).toInt = (1 : Int32).toInt := congrArg Int32.toInt ((congrFun ge1112 _).trans hm_ue)
        have b1116 : (1 : Int32).toInt = 1 := by decide
        refine lv_aload_n hx hb dX13_readLine_125 rfl (lv_at hl 2 rfl) ?_
        have fx1117 : V1107 (mo) = some (.inr (13, hm_o q (m_tp) (m_sz) (m_fr) (m_bh) (m_hd) (m_ft) (m_fa) (m_le) (m_fo) (m_as) (m_fd) (m_bc) (m_bg) (m_bs) (m_be) (m_b0) (m_b1) (m_cm) (m_hc))) := (o1109 (mo) (hq_tne h_mo (hr_10 hR) (by simp))).trans (ho28)
        refine hp_get (v := .ref (q + 11)) hx hb hts hown hZ fx1117 fl_X13_32 rfl dX13_readLine_126 ?_
        refine lv_iload_n hx hb dX13_readLine_129 rfl (lv_at hl 0 rfl) ?_
        refine lv_iconst (v := -1) hx hb dX13_readLine_130 (by decide) ?_
        obtain ⟨hN1120, g1119, eV1118, hf1121⟩ := hq_o21 hP.1 (hr_11 hR)
        refine hp_iast hx hb hZ eV1118 (hq_in (by omega) (by omega)) dX13_readLine_131 (fun V1122 _ _ e1123 o1124 hZ => ?_)
        have e1123 : V1122 (q + 11) = some (.inl (cs 1, 120, .inl (upd (g1119) ((y1100 : Int32).toNatClampNeg) (-1)))) := e1123
        have hl1125 : (-1 : Int32).toInt = -1 := by decide
        have hP := hP.put (hr_11 hR) e1123 o1124 (hq_c21 (by omega) (hq_upd hf1121 (hq_rng _))) rfl
        refine lv_aload_n hx hb dX13_readLine_132 rfl (lv_at hl 2 rfl) ?_
        have fx1126 : V1122 (mo) = some (.inr (13, hm_o q (m_tp) (m_sz) (m_fr) (m_bh) (m_hd) (m_ft) (m_fa) (m_le) (m_fo) (m_as) (m_fd) (m_bc) (m_bg) (m_bs) (m_be) (m_b0) (m_b1) (m_cm) (m_hc))) := (o1124 (mo) (hq_tne h_mo (hr_11 hR) (by simp))).trans (fx1117)
        refine hp_get (v := .ref (q + 12)) hx hb hts hown hZ fx1126 fl_X13_35 rfl dX13_readLine_133 ?_
        refine lv_iload_n hx hb dX13_readLine_136 rfl (lv_at hl 0 rfl) ?_
        refine lv_iconst (v := -1) hx hb dX13_readLine_137 (by decide) ?_
        obtain ⟨hN1129, g1128, eV1127, hf1130⟩ := hq_o21 hP.1 (hr_12 hR)
        refine hp_iast hx hb hZ eV1127 (hq_in (by omega) (by omega)) dX13_readLine_138 (fun V1131 _ _ e1132 o1133 hZ => ?_)
        have e1132 : V1131 (q + 12) = some (.inl (cs 1, 120, .inl (upd (g1128) ((y1100 : Int32).toNatClampNeg) (-1)))) := e1132
        have hl1134 : (-1 : Int32).toInt = -1 := by decide
        have hP := hP.put (hr_12 hR) e1132 o1133 (hq_c21 (by omega) (hq_upd hf1130 (hq_rng _))) rfl
        refine lv_aload_n hx hb dX13_readLine_139 rfl (lv_at hl 2 rfl) ?_
        have fx1135 : V1131 (mo) = some (.inr (13, hm_o q (m_tp) (m_sz) (m_fr) (m_bh) (m_hd) (m_ft) (m_fa) (m_le) (m_fo) (m_as) (m_fd) (m_bc) (m_bg) (m_bs) (m_be) (m_b0) (m_b1) (m_cm) (m_hc))) := (o1133 (mo) (hq_tne h_mo (hr_12 hR) (by simp))).trans (fx1126)
        refine hp_get (v := .ref (q + 13)) hx hb hts hown hZ fx1135 fl_X13_38 rfl dX13_readLine_140 ?_
        refine lv_iload_n hx hb dX13_readLine_143 rfl (lv_at hl 0 rfl) ?_
        refine lv_iconst (v := -1) hx hb dX13_readLine_144 (by decide) ?_
        obtain ⟨hN1138, g1137, eV1136, hf1139⟩ := hq_o21 hP.1 (hr_13 hR)
        refine hp_iast hx hb hZ eV1136 (hq_in (by omega) (by omega)) dX13_readLine_145 (fun V1140 _ _ e1141 o1142 hZ => ?_)
        have e1141 : V1140 (q + 13) = some (.inl (cs 1, 120, .inl (upd (g1137) ((y1100 : Int32).toNatClampNeg) (-1)))) := e1141
        have hl1143 : (-1 : Int32).toInt = -1 := by decide
        have hP := hP.put (hr_13 hR) e1141 o1142 (hq_c21 (by omega) (hq_upd hf1139 (hq_rng _))) rfl
        refine lv_aload_n hx hb dX13_readLine_146 rfl (lv_at hl 2 rfl) ?_
        have fx1144 : V1140 (mo) = some (.inr (13, hm_o q (m_tp) (m_sz) (m_fr) (m_bh) (m_hd) (m_ft) (m_fa) (m_le) (m_fo) (m_as) (m_fd) (m_bc) (m_bg) (m_bs) (m_be) (m_b0) (m_b1) (m_cm) (m_hc))) := (o1142 (mo) (hq_tne h_mo (hr_13 hR) (by simp))).trans (fx1135)
        refine hp_get (v := .ref (q + 14)) hx hb hts hown hZ fx1144 fl_X13_41 rfl dX13_readLine_147 ?_
        refine lv_iload_n hx hb dX13_readLine_150 rfl (lv_at hl 0 rfl) ?_
        refine lv_iconst (v := 0) hx hb dX13_readLine_151 (by decide) ?_
        have fx1145 : V1140 (q + 14) = some (.inl (cs 1, 120, .inl (g6))) := (o1142 (q + 14) (hq_ne q 14 13 (by decide))).trans ((o1133 (q + 14) (hq_ne q 14 12 (by decide))).trans ((o1124 (q + 14) (hq_ne q 14 11 (by decide))).trans ((o1109 (q + 14) (hq_ne q 14 10 (by decide))).trans ((hq26.2 (q + 14) _ (hr_14 hR) rfl).trans ((hq17.2 (q + 14) _ (hr_14 hR) rfl).trans (eV5))))))
        refine hp_iast hx hb hZ fx1145 (hq_in (by omega) (by omega)) dX13_readLine_152 (fun V1146 _ _ e1147 o1148 hZ => ?_)
        have e1147 : V1146 (q + 14) = some (.inl (cs 1, 120, .inl (upd (g6) ((y1100 : Int32).toNatClampNeg) (0)))) := e1147
        have hl1149 : (0 : Int32).toInt = 0 := by decide
        have hP := hP.put (hr_14 hR) e1147 o1148 (hq_c21 (by omega) (hq_upd hf8 (show 0 ≤ _ ∧ _ ≤ 8 by constructor <;> omega))) rfl
        obtain ⟨g1150, ge1151⟩ : ∃ g9 : Nat → Int32, g9 = upd (g6) ((y1100 : Int32).toNatClampNeg) (0) := ⟨_, rfl⟩
        have fx1153 : V1146 (q + 14) = some (.inl (cs 1, 120, .inl (g1150))) := by rw [ge1151]; exact e1147
        have hf1152 := hq_rg hP.1 (hr_14 hR) fx1153
        have b1154 : (g1150 (y1100 : Int32).toNatClampNeg).toInt = (0 : Int32).toInt := congrArg Int32.toInt ((congrFun ge1151 _).trans hm_ue)
        have b1155 : (0 : Int32).toInt = 0 := by decide
        refine lv_aload_n hx hb dX13_readLine_153 rfl (lv_at hl 2 rfl) ?_
        have fx1156 : V1146 (mo) = some (.inr (13, hm_o q (m_tp) (m_sz) (m_fr) (m_bh) (m_hd) (m_ft) (m_fa) (m_le) (m_fo) (m_as) (m_fd) (m_bc) (m_bg) (m_bs) (m_be) (m_b0) (m_b1) (m_cm) (m_hc))) := (o1148 (mo) (hq_tne h_mo (hr_14 hR) (by simp))).trans (fx1144)
        refine hp_get (v := .ref (q + 15)) hx hb hts hown hZ fx1156 fl_X13_44 rfl dX13_readLine_154 ?_
        refine lv_iload_n hx hb dX13_readLine_157 rfl (lv_at hl 0 rfl) ?_
        refine lv_iconst (v := 0) hx hb dX13_readLine_158 (by decide) ?_
        obtain ⟨hN1159, g1158, eV1157, hf1160⟩ := hq_o21 hP.1 (hr_15 hR)
        refine hp_iast hx hb hZ eV1157 (hq_in (by omega) (by omega)) dX13_readLine_159 (fun V1161 _ _ e1162 o1163 hZ => ?_)
        have e1162 : V1161 (q + 15) = some (.inl (cs 1, 120, .inl (upd (g1158) ((y1100 : Int32).toNatClampNeg) (0)))) := e1162
        have hl1164 : (0 : Int32).toInt = 0 := by decide
        have hP := hP.put (hr_15 hR) e1162 o1163 (hq_c21 (by omega) (hq_upd hf1160 (show 0 ≤ _ ∧ _ ≤ 8 by constructor <;> omega))) rfl
        refine lv_aload_n hx hb dX13_readLine_160 rfl (lv_at hl 2 rfl) ?_
        have fx1165 : V1161 (mo) = some (.inr (13, hm_o q (m_tp) (m_sz) (m_fr) (m_bh) (m_hd) (m_ft) (m_fa) (m_le) (m_fo) (m_as) (m_fd) (m_bc) (m_bg) (m_bs) (m_be) (m_b0) (m_b1) (m_cm) (m_hc))) := (o1163 (mo) (hq_tne h_mo (hr_15 hR) (by simp))).trans (fx1156)
        refine hp_get (v := .ref (q + 16)) hx hb hts hown hZ fx1165 fl_X13_47 rfl dX13_readLine_161 ?_
        refine lv_iload_n hx hb dX13_readLine_164 rfl (lv_at hl 0 rfl) ?_
        refine lv_iconst (v := 0) hx hb dX13_readLine_165 (by decide) ?_
        obtain ⟨hN1168, g1167, eV1166, hf1169⟩ := hq_o21 hP.1 (hr_16 hR)
        refine hp_iast hx hb hZ eV1166 (hq_in (by omega) (by omega)) dX13_readLine_166 (fun V1170 _ _ e1171 o1172 hZ => ?_)
        have e1171 : V1170 (q + 16) = some (.inl (cs 1, 120, .inl (upd (g1167) ((y1100 : Int32).toNatClampNeg) (0)))) := e1171
        have hl1173 : (0 : Int32).toInt = 0 := by decide
        have hP := hP.put (hr_16 hR) e1171 o1172 (hq_c21 (by omega) (hq_upd hf1169 (show 0 ≤ _ ∧ _ ≤ 29 by constructor <;> omega))) rfl
        refine lv_aload_n hx hb dX13_readLine_167 rfl (lv_at hl 2 rfl) ?_
        have fx1180 : V1170 (mo) = some (.inr (13, hm_o q (m_tp) (m_sz) (m_fr) (m_bh) (m_hd) (m_ft) (m_fa) (m_le) (m_fo) (m_as) (m_fd) (m_bc) (m_bg) (m_bs) (m_be) (m_b0) (m_b1) (m_cm) (m_hc))) := (o1172 (mo) (hq_tne h_mo (hr_16 hR) (by simp))).trans (fx1165)
        refine hp_callv (hp_runV (As := []) (rest := []) hx hb hml hown hts (t_X13_scan l D cs B G  V1170 n hP.1 q hR (mo) h_mo fx1180  (by omega) (by omega) (by omega) (by omega) (by omega) (by omega) (by omega) (by omega) (hm_SC.s0 (by assumption)) (hm_SC.s1 (by assumption) (by first | omega | (have h8 := hm_Is.hd (by assumption) (by omega); omega)))) hZ fx1180 cv_X13_111 rfl rfl ⟨Nat.le_of_ble_eq_true rfl, Nat.le_of_ble_eq_true rfl⟩ rfl hl.1 rfl (Nat.le_of_ble_eq_true rfl) dX13_readLine_168 ⟨(Nat.le_of_ble_eq_true rfl), (Nat.le_of_ble_eq_true rfl)⟩) hZ (fun V1174 n1175 _ _ hw1176 hZ => ?_)
        obtain ⟨rfl, hq1178, ⟨z1181, z1182, z1183, ho1184, hi1185⟩⟩ := hw1176
        have hP := hP.trans hq1178 (by intro g h; simp_all)
        have b1186 := hq_rng z1181
        have b1187 := hq_rng z1182
        have b1188 := hq_rng z1183
        refine lv_iload_n hx hb dX13_readLine_171 rfl (lv_at hl 1 rfl) ?_
        refine lv_iconst (v := 4) hx hb dX13_readLine_172 (by decide) ?_
        refine lv_icmp_eq (tgt := 181) hx hb dX13_readLine_173 (by decide) (fun c1189 => absurd c1189 (by decide)) (fun c1189 => ?_)
        refine lv_iload_n hx hb dX13_readLine_176 rfl (lv_at hl 1 rfl) ?_
        refine lv_iconst (v := 5) hx hb dX13_readLine_177 (by decide) ?_
        refine lv_icmp_ne (tgt := 194) hx hb dX13_readLine_178 (by decide) (fun c1190 => ?_) (fun c1190 => absurd c1190 (by decide))
        refine lv_iload_n hx hb dX13_readLine_194 rfl (lv_at hl 1 rfl) ?_
        refine lv_iconst (v := 2) hx hb dX13_readLine_195 (by decide) ?_
        refine lv_icmp_eq (tgt := 204) hx hb dX13_readLine_196 (by decide) (fun c1191 => absurd c1191 (by decide)) (fun c1191 => ?_)
        refine lv_aload_n hx hb dX13_readLine_199 rfl (lv_at hl 2 rfl) ?_
        refine lv_iload_n hx hb dX13_readLine_200 rfl (lv_at hl 0 rfl) ?_
        have fx1205 : V1174 (q + 10) = some (.inl (cs 1, 120, .inl (g1111))) := (hq1178.2 (q + 10) _ (hr_10 hR) rfl).trans ((o1172 (q + 10) (hq_ne q 10 16 (by decide))).trans ((o1163 (q + 10) (hq_ne q 10 15 (by decide))).trans ((o1148 (q + 10) (hq_ne q 10 14 (by decide))).trans ((o1142 (q + 10) (hq_ne q 10 13 (by decide))).trans ((o1133 (q + 10) (hq_ne q 10 12 (by decide))).trans ((o1124 (q + 10) (hq_ne q 10 11 (by decide))).trans (fx1114)))))))
        have fx1206 : V1174 (q + 14) = some (.inl (cs 1, 120, .inl (g1150))) := (hq1178.2 (q + 14) _ (hr_14 hR) rfl).trans ((o1172 (q + 14) (hq_ne q 14 16 (by decide))).trans ((o1163 (q + 14) (hq_ne q 14 15 (by decide))).trans (fx1153)))
        have fx1207 : V1174 (q + 2) = some (.inl (cs 1, 2, .inl (g10))) := (hq1178.2 (q + 2) _ (hr_2 hR) rfl).trans ((o1172 (q + 2) (hq_ne q 2 16 (by decide))).trans ((o1163 (q + 2) (hq_ne q 2 15 (by decide))).trans ((o1148 (q + 2) (hq_ne q 2 14 (by decide))).trans ((o1142 (q + 2) (hq_ne q 2 13 (by decide))).trans ((o1133 (q + 2) (hq_ne q 2 12 (by decide))).trans ((o1124 (q + 2) (hq_ne q 2 11 (by decide))).trans ((o1109 (q + 2) (hq_ne q 2 10 (by decide))).trans (fx1090))))))))
        refine hq_callx (hq_runV (As := [.int (y1100)]) (rest := []) hx hb hml hown hts (t_X13_readWhere l D cs B G  V1174 n hP.1 q hR (mo) h_mo (y1100) ho1184  (by omega) (by omega) (by omega) (by omega) (by omega) (by omega) (by omega) (by omega) (by assumption) (by omega) (by omega)) hZ ho1184 cv_X13_185 rfl rfl ⟨Nat.le_of_ble_eq_true rfl, Nat.le_of_ble_eq_true rfl⟩ rfl hl.1 rfl (Nat.le_of_ble_eq_true rfl) dX13_readLine_201 ⟨(Nat.le_of_ble_eq_true rfl), (Nat.le_of_ble_eq_true rfl)⟩) hZ hnx hlocks (by rintro x9 V9 n9 ⟨rfl, rfl, hq9, ⟨z1198x, z1199x, z1200x, z1201x, z1202x, hox0, hix00⟩⟩; have hbxz1198 := hq_rng z1198x; have hbxz1199 := hq_rng z1199x; have hbxz1200 := hq_rng z1200x; have hbxz1201 := hq_rng z1201x; have hbxz1202 := hq_rng z1202x; exact ⟨rfl, rfl, hP.trans hq9 (by intro g h; simp_all), ⟨z1198x, z1199x, z1200x, z1201x, z1202x, hox0, by assumption⟩, ((hm_JH.of eV1 eV5 eV9 fx1205 fx1206 fx1207 (fun j hj => (congrFun ge1112 j).trans (hm_ub (by omega) hj)) (fun j hj => (congrFun ge1151 j).trans (hm_ub (by omega) hj)) rfl (hq_rg hI (hr_2 hR) eV9 0 (by decide)).2)).keep hR (fun x t hx hg => hq9.2 x t hx (by simp [hg]))⟩) (fun v9 V1192 n1193 _ _ hw1194 hZ => ?_)
        obtain ⟨rfl, rfl, hq1196, ⟨z1198, z1199, z1200, z1201, z1202, ho1203, hi1204⟩⟩ := hw1194
        refine W.eq (g2 := F0 m 204 ls []) rfl ?_
        have hP := hP.trans hq1196 (by intro g h; simp_all)
        have b1208 := hq_rng z1198
        have b1209 := hq_rng z1199
        have b1210 := hq_rng z1200
        have b1211 := hq_rng z1201
        have b1212 := hq_rng z1202
        refine lv_iload_n hx hb dX13_readLine_204 rfl (lv_at hl 1 rfl) ?_
        refine lv_iconst (v := 2) hx hb dX13_readLine_205 (by decide) ?_
        refine lv_icmp_eq (tgt := 219) hx hb dX13_readLine_206 (by decide) (fun c1213 => absurd c1213 (by decide)) (fun c1213 => ?_)
        refine lv_iload_n hx hb dX13_readLine_209 rfl (lv_at hl 1 rfl) ?_
        refine lv_iconst (v := 3) hx hb dX13_readLine_210 (by decide) ?_
        refine lv_icmp_eq (tgt := 219) hx hb dX13_readLine_211 (by decide) (fun c1214 => absurd c1214 (by decide)) (fun c1214 => ?_)
        refine lv_aload_n hx hb dX13_readLine_214 rfl (lv_at hl 2 rfl) ?_
        refine lv_iload_n hx hb dX13_readLine_215 rfl (lv_at hl 0 rfl) ?_
        have fx1228 : V1192 (q + 10) = some (.inl (cs 1, 120, .inl (g1111))) := (hq1196.2 (q + 10) _ (hr_10 hR) rfl).trans (fx1205)
        have fx1229 : V1192 (q + 14) = some (.inl (cs 1, 120, .inl (g1150))) := (hq1196.2 (q + 14) _ (hr_14 hR) rfl).trans (fx1206)
        have fx1230 : V1192 (q + 2) = some (.inl (cs 1, 2, .inl (g10))) := (hq1196.2 (q + 2) _ (hr_2 hR) rfl).trans (fx1207)
        refine hq_callx (hq_runV (As := [.int (y1100)]) (rest := []) hx hb hml hown hts (t_X13_readSlot l D cs B G  V1192 n hP.1 q hR (mo) h_mo (y1100) ho1203  (by omega) (by omega) (by omega) (by omega) (by omega) (by omega) (by omega) (by omega) (by assumption) (by omega) (by omega)) hZ ho1203 cv_X13_189 rfl rfl ⟨Nat.le_of_ble_eq_true rfl, Nat.le_of_ble_eq_true rfl⟩ rfl hl.1 rfl (Nat.le_of_ble_eq_true rfl) dX13_readLine_216 ⟨(Nat.le_of_ble_eq_true rfl), (Nat.le_of_ble_eq_true rfl)⟩) hZ hnx hlocks (by rintro x9 V9 n9 ⟨rfl, rfl, hq9, ⟨z1221x, z1222x, z1223x, z1224x, z1225x, hox0, hix00⟩⟩; have hbxz1221 := hq_rng z1221x; have hbxz1222 := hq_rng z1222x; have hbxz1223 := hq_rng z1223x; have hbxz1224 := hq_rng z1224x; have hbxz1225 := hq_rng z1225x; exact ⟨rfl, rfl, hP.trans hq9 (by intro g h; simp_all), ⟨z1221x, z1222x, z1223x, z1224x, z1225x, hox0, by assumption⟩, ((hm_JH.of eV1 eV5 eV9 fx1228 fx1229 fx1230 (fun j hj => (congrFun ge1112 j).trans (hm_ub (by omega) hj)) (fun j hj => (congrFun ge1151 j).trans (hm_ub (by omega) hj)) rfl (hq_rg hI (hr_2 hR) eV9 0 (by decide)).2)).keep hR (fun x t hx hg => hq9.2 x t hx (by simp [hg]))⟩) (fun v9 V1215 n1216 _ _ hw1217 hZ => ?_)
        obtain ⟨rfl, rfl, hq1219, ⟨z1221, z1222, z1223, z1224, z1225, ho1226, hi1227⟩⟩ := hw1217
        refine W.eq (g2 := F0 m 219 ls []) rfl ?_
        have hP := hP.trans hq1219 (by intro g h; simp_all)
        have b1231 := hq_rng z1221
        have b1232 := hq_rng z1222
        have b1233 := hq_rng z1223
        have b1234 := hq_rng z1224
        have b1235 := hq_rng z1225
        refine lv_iload_n hx hb dX13_readLine_219 rfl (lv_at hl 1 rfl) ?_
        refine lv_iconst (v := 3) hx hb dX13_readLine_220 (by decide) ?_
        refine lv_icmp_ne (tgt := 229) hx hb dX13_readLine_221 (by decide) (fun c1236 => ?_) (fun c1236 => absurd c1236 (by decide))
        refine lv_iload_n hx hb dX13_readLine_229 rfl (lv_at hl 1 rfl) ?_
        refine lv_if_eq (tgt := 248) hx hb dX13_readLine_230 (by decide) (fun c1237 => absurd c1237 (by decide)) (fun c1237 => ?_)
        refine lv_iload_n hx hb dX13_readLine_233 rfl (lv_at hl 1 rfl) ?_
        refine lv_iconst (v := 1) hx hb dX13_readLine_234 (by decide) ?_
        refine lv_icmp_eq (tgt := 248) hx hb dX13_readLine_235 (by decide) (fun c1238 => ?_) (fun c1238 => absurd (by decide) c1238)
        refine lv_aload_n hx hb dX13_readLine_248 rfl (lv_at hl 2 rfl) ?_
        refine hp_get (v := .int (z1223)) hx hb hts hown hZ ho1226 fl_X13_83 rfl dX13_readLine_249 ?_
        refine lv_iconst (v := 3) hx hb dX13_readLine_252 (by decide) ?_
        refine lv_icmp_eq (tgt := 262) hx hb dX13_readLine_253 (by decide) (fun c1239 => ?_) (fun c1239 => ?_)
        · have c1239 : (z1223).toInt = (3 : Int) := hq_eqi.mp c1239
          refine lv_iload_n hx hb dX13_readLine_262 rfl (lv_at hl 1 rfl) ?_
          refine lv_iconst (v := 4) hx hb dX13_readLine_263 (by decide) ?_
          refine lv_icmp_ne (tgt := 282) hx hb dX13_readLine_264 (by decide) (fun c1240 => ?_) (fun c1240 => absurd c1240 (by decide))
          refine lv_iload_n hx hb dX13_readLine_282 rfl (lv_at hl 1 rfl) ?_
          refine lv_iconst (v := 1) hx hb dX13_readLine_283 (by decide) ?_
          refine lv_icmp_eq (tgt := 306) hx hb dX13_readLine_284 (by decide) (fun c1241 => ?_) (fun c1241 => absurd (by decide) c1241)
          refine lv_aload_n hx hb dX13_readLine_306 rfl (lv_at hl 2 rfl) ?_
          refine hp_get (v := .ref (q + 14)) hx hb hts hown hZ ho1226 fl_X13_41 rfl dX13_readLine_307 ?_
          refine lv_iload_n hx hb dX13_readLine_310 rfl (lv_at hl 0 rfl) ?_
          refine lv_aload_n hx hb dX13_readLine_311 rfl (lv_at hl 2 rfl) ?_
          refine lv_aload_n hx hb dX13_readLine_312 rfl (lv_at hl 2 rfl) ?_
          refine hp_get (v := .ref (q + 5)) hx hb hts hown hZ ho1226 fl_X13_23 rfl dX13_readLine_313 ?_
          refine lv_iload_n hx hb dX13_readLine_316 rfl (lv_at hl 0 rfl) ?_
          have h3a := hm_SC.a3 (by assumption : hm_SC m_sz z1221 z1222 z1223) (by omega)
          refine hp_calli (hp_runV (As := [.ref (q + 5), .int (y1100)]) (rest := [.int (y1100), .ref (q + 14)]) hx hb hml hown hts (t_X13_takeLetters l D cs B G  V1215 n hP.1 q hR (mo) h_mo (q + 5) (hr_5 hR) (y1100) ho1226  (by omega) (by omega) (by omega) (by omega) (by omega) (by omega) (by omega) (by omega) (by assumption) (by omega) (by omega) (by omega)) hZ ho1226 cv_X13_198 rfl rfl ⟨Nat.le_of_ble_eq_true rfl, Nat.le_of_ble_eq_true rfl⟩ rfl hl.1 rfl (Nat.le_of_ble_eq_true rfl) dX13_readLine_317 ⟨(Nat.le_of_ble_eq_true rfl), (Nat.le_of_ble_eq_true rfl)⟩) hZ (fun r1245 V1242 n1243 _ _ hw1244 hZ => ?_)
          obtain ⟨rfl, hq1246, ⟨z1248, z1249, z1250, ho1251, hi1252⟩, hr1247⟩ := hw1244
          have hP := hP.trans hq1246 (by intro g h; simp_all)
          have b1253 := hq_rng z1248
          have b1254 := hq_rng z1249
          have b1255 := hq_rng z1250
          have b1256 := hq_rng r1245
          have fx1257 : V1242 (q + 14) = some (.inl (cs 1, 120, .inl (g1150))) := (hq1246.2 (q + 14) _ (hr_14 hR) rfl).trans ((hq1219.2 (q + 14) _ (hr_14 hR) rfl).trans (fx1229))
          refine hp_iast hx hb hZ fx1257 (hq_in (by omega) (by omega)) dX13_readLine_320 (fun V1258 _ _ e1259 o1260 hZ => ?_)
          have e1259 : V1258 (q + 14) = some (.inl (cs 1, 120, .inl (upd (g1150) ((y1100 : Int32).toNatClampNeg) (r1245)))) := e1259
          have hP := hP.put (hr_14 hR) e1259 o1260 (hq_c21 (by omega) (hq_upd hf1152 (show 0 ≤ _ ∧ _ ≤ 8 by constructor <;> omega))) rfl
          obtain ⟨g1261, ge1262⟩ : ∃ g9 : Nat → Int32, g9 = upd (g1150) ((y1100 : Int32).toNatClampNeg) (r1245) := ⟨_, rfl⟩
          have fx1264 : V1258 (q + 14) = some (.inl (cs 1, 120, .inl (g1261))) := by rw [ge1262]; exact e1259
          have hf1263 := hq_rg hP.1 (hr_14 hR) fx1264
          have b1265 : (g1261 (y1100 : Int32).toNatClampNeg).toInt = (r1245 : Int32).toInt := congrArg Int32.toInt ((congrFun ge1262 _).trans hm_ue)
          refine lv_iload_n hx hb dX13_readLine_321 rfl (lv_at hl 1 rfl) ?_
          refine lv_if_eq (tgt := 330) hx hb dX13_readLine_322 (by decide) (fun c1266 => absurd c1266 (by decide)) (fun c1266 => ?_)
          refine lv_iload_n hx hb dX13_readLine_325 rfl (lv_at hl 1 rfl) ?_
          refine lv_iconst (v := 2) hx hb dX13_readLine_326 (by decide) ?_
          refine lv_icmp_ne (tgt := 365) hx hb dX13_readLine_327 (by decide) (fun c1267 => ?_) (fun c1267 => absurd c1267 (by decide))
          refine lv_iload_n hx hb dX13_readLine_365 rfl (lv_at hl 1 rfl) ?_
          refine lv_iconst (v := 2) hx hb dX13_readLine_366 (by decide) ?_
          refine lv_icmp_ne (tgt := 390) hx hb dX13_readLine_367 (by decide) (fun c1268 => ?_) (fun c1268 => absurd c1268 (by decide))
          refine lv_aload_n hx hb dX13_readLine_390 rfl (lv_at hl 2 rfl) ?_
          have fx1269 : V1258 (mo) = some (.inr (13, hm_o q (m_tp) (m_sz) (z1248) (z1249) (z1250) (z1224) (z1225) (m_le) (m_fo) (m_as) (m_fd) (m_bc) (m_bg) (m_bs) (m_be) (m_b0) (m_b1) (m_cm) (m_hc))) := (o1260 (mo) (hq_tne h_mo (hr_14 hR) (by simp))).trans (ho1251)
          refine hp_get (v := .ref (q + 2)) hx hb hts hown hZ fx1269 fl_X13_10 rfl dX13_readLine_391 ?_
          refine lv_iconst (v := 1) hx hb dX13_readLine_394 (by decide) ?_
          refine lv_dup2_11 hx hb dX13_readLine_395 rfl rfl ?_
          have fx1270 : V1258 (q + 2) = some (.inl (cs 1, 2, .inl (g10))) := (o1260 (q + 2) (hq_ne q 2 14 (by decide))).trans ((hq1246.2 (q + 2) _ (hr_2 hR) rfl).trans ((hq1219.2 (q + 2) _ (hr_2 hR) rfl).trans (fx1230)))
          refine hp_iald hx hb hZ fx1270 (by unfold vp_in; decide) dX13_readLine_396 ?_
          refine lv_topi (fun y1271 ey1272 => ?_)
          have b1274 : (y1271).toInt = ((g10) (1 : Int32).toNatClampNeg).toInt := by rw [ey1272]
          have b1273 : hq_ir (hq_lo 8) (hq_hi 8) y1271 := by rw [ey1272]; exact hf12 _ (by decide)
          have b1273 : 0 ≤ (y1271).toInt ∧ (y1271).toInt ≤ 60 := b1273
          refine lv_iconst (v := 1) hx hb dX13_readLine_397 (by decide) ?_
          refine lv_iadd hx hb dX13_readLine_398 ?_
          refine lv_topi (fun y1275 ey1276 => ?_)
          obtain ⟨k1277, hk1278, b1279, b1280⟩ := hq_add (y1271) (1)
          rw [← ey1276] at hk1278 b1279 b1280
          have hk1278 : (y1275).toInt = (y1271).toInt + (1 : Int) + k1277 * 4294967296 := hk1278
          obtain rfl : k1277 = 0 := by omega
          refine hp_iast hx hb hZ fx1270 (by unfold vp_in; decide) dX13_readLine_399 (fun V1281 _ _ e1282 o1283 hZ => ?_)
          have e1282 : V1281 (q + 2) = some (.inl (cs 1, 2, .inl (upd (g10) ((1 : Int32).toNatClampNeg) (y1275)))) := e1282
          have hP := hP.put (hr_2 hR) e1282 o1283 (hq_c21 (by omega) (hq_upd hf12 (show 0 ≤ _ ∧ _ ≤ 60 by constructor <;> omega))) rfl
          obtain ⟨g1284, ge1285⟩ : ∃ g9 : Nat → Int32, g9 = upd (g10) ((1 : Int32).toNatClampNeg) (y1275) := ⟨_, rfl⟩
          have fx1287 : V1281 (q + 2) = some (.inl (cs 1, 2, .inl (g1284))) := by rw [ge1285]; exact e1282
          have hf1286 := hq_rg hP.1 (hr_2 hR) fx1287
          have b1288 : (g1284 (1 : Int32).toNatClampNeg).toInt = (y1275 : Int32).toInt := congrArg Int32.toInt ((congrFun ge1285 _).trans hm_ue)
          have fx1289 : V1281 (mo) = some (.inr (13, hm_o q (m_tp) (m_sz) (z1248) (z1249) (z1250) (z1224) (z1225) (m_le) (m_fo) (m_as) (m_fd) (m_bc) (m_bg) (m_bs) (m_be) (m_b0) (m_b1) (m_cm) (m_hc))) := (o1283 (mo) (hq_tne h_mo (hr_2 hR) (by simp))).trans (fx1269)
          have fx1290 : V1281 (q + 10) = some (.inl (cs 1, 120, .inl (g1111))) := (o1283 (q + 10) (hq_ne q 10 2 (by decide))).trans ((o1260 (q + 10) (hq_ne q 10 14 (by decide))).trans ((hq1246.2 (q + 10) _ (hr_10 hR) rfl).trans ((hq1219.2 (q + 10) _ (hr_10 hR) rfl).trans (fx1228))))
          have fx1291 : V1281 (q + 14) = some (.inl (cs 1, 120, .inl (g1261))) := (o1283 (q + 14) (hq_ne q 14 2 (by decide))).trans (fx1264)
          exact hq_vret hx hb hr hlocks hZ ⟨rfl, rfl, hP, ⟨z1248, z1249, z1250, z1224, z1225, fx1289, by assumption⟩, ⟨(hm_JH.of eV1 eV5 eV9 fx1290 fx1291 fx1287 (fun j hj => (congrFun ge1112 j).trans (hm_ub (by omega) hj)) (fun j hj => ((congrFun ge1262 j).trans (hm_ub (by omega) hj)).trans ((congrFun ge1151 j).trans (hm_ub (by omega) hj))) ((congrFun ge1285 0).trans (hm_un (by decide))) (hq_rg hI (hr_2 hR) eV9 0 (by decide)).2), (hm_JJ.of (l := y1100) eV1 eV5 eV9 fx1290 fx1291 fx1287 (by omega) (by omega) (fun j hj => (congrFun ge1112 j).trans (hm_un hj)) (fun j hj => ((congrFun ge1262 j).trans (hm_un hj)).trans ((congrFun ge1151 j).trans (hm_un hj))) (by rw [show g1284 (1 : Int32).toNatClampNeg = _ from (congrFun ge1285 _).trans hm_ue]; omega) (fun h9 => by rw [show g1111 y1100.toNatClampNeg = 1 from (congrFun ge1112 _).trans hm_ue] at h9; exact absurd h9 (by decide)))⟩⟩ dX13_readLine_400
        · have c1239 : ¬ (z1223).toInt = (3 : Int) := fun h9 => c1239 (hq_eqi.mpr h9)
          refine lv_aload_n hx hb dX13_readLine_256 rfl (lv_at hl 2 rfl) ?_
          refine lv_iconst (v := 1) hx hb dX13_readLine_257 (by decide) ?_
          have hl1301 : (1 : Int32).toInt = 1 := by decide
          refine hp_callq (hp_runV (As := [.int (1)]) (rest := []) hx hb hml hown hts (t_X13_wrong l D cs B G  V1215 n hP.1 q hR (mo) h_mo (1) ho1226  (by omega) (by omega) (by omega) (by omega) (by omega) (by omega) (by omega) (by omega) ) hZ ho1226 cv_X13_107 rfl rfl ⟨Nat.le_of_ble_eq_true rfl, Nat.le_of_ble_eq_true rfl⟩ rfl hl.1 rfl (Nat.le_of_ble_eq_true rfl) dX13_readLine_258 ⟨(Nat.le_of_ble_eq_true rfl), (Nat.le_of_ble_eq_true rfl)⟩) hZ (fun r1295 V1292 n1293 _ _ hw1294 hZ => ?_)
          obtain ⟨rfl, hq1296, ⟨z1298, z1299, ho1300⟩, hr1297⟩ := hw1294
          have hP := hP.trans hq1296 (by intro g h; simp_all)
          have b1302 := hq_rng z1298
          have b1303 := hq_rng z1299
          subst hr1297
          refine W.eq (g2 := F0 m 261 ls [.ref (q + 19)]) rfl ?_
          have fx1304 : V1292 (q + 10) = some (.inl (cs 1, 120, .inl (g1111))) := (hq1296.2 (q + 10) _ (hr_10 hR) rfl).trans ((hq1219.2 (q + 10) _ (hr_10 hR) rfl).trans (fx1228))
          have fx1305 : V1292 (q + 14) = some (.inl (cs 1, 120, .inl (g1150))) := (hq1296.2 (q + 14) _ (hr_14 hR) rfl).trans ((hq1219.2 (q + 14) _ (hr_14 hR) rfl).trans (fx1229))
          have fx1306 : V1292 (q + 2) = some (.inl (cs 1, 2, .inl (g10))) := (hq1296.2 (q + 2) _ (hr_2 hR) rfl).trans ((hq1219.2 (q + 2) _ (hr_2 hR) rfl).trans (fx1230))
          exact hq_athrow hx hb hnx hlocks hZ ⟨rfl, rfl, hP, ⟨z1221, z1222, z1223, z1298, z1299, ho1300, by assumption⟩, (hm_JH.of eV1 eV5 eV9 fx1304 fx1305 fx1306 (fun j hj => (congrFun ge1112 j).trans (hm_ub (by omega) hj)) (fun j hj => (congrFun ge1151 j).trans (hm_ub (by omega) hj)) rfl (hq_rg hI (hr_2 hR) eV9 0 (by decide)).2)⟩ dX13_readLine_261
      · have c1095 : (y1091).toInt = (60 : Int) := hq_eqi.mp c1095
        refine lv_aload_n hx hb dX13_readLine_102 rfl (lv_at hl 1 rfl) ?_
        refine lv_iconst (v := 4) hx hb dX13_readLine_103 (by decide) ?_
        have hl1316 : (4 : Int32).toInt = 4 := by decide
        refine hp_callq (hp_runV (As := [.int (4)]) (rest := []) hx hb hml hown hts (t_X13_wrong l D cs B G  V22 n hP.1 q hR (mo) h_mo (4) ho28  (by omega) (by omega) (by omega) (by omega) (by omega) (by omega) (by omega) (by omega) ) hZ ho28 cv_X13_107 rfl rfl ⟨Nat.le_of_ble_eq_true rfl, Nat.le_of_ble_eq_true rfl⟩ rfl hl.1 rfl (Nat.le_of_ble_eq_true rfl) dX13_readLine_104 ⟨(Nat.le_of_ble_eq_true rfl), (Nat.le_of_ble_eq_true rfl)⟩) hZ (fun r1310 V1307 n1308 _ _ hw1309 hZ => ?_)
        obtain ⟨rfl, hq1311, ⟨z1313, z1314, ho1315⟩, hr1312⟩ := hw1309
        have hP := hP.trans hq1311 (by intro g h; simp_all)
        have b1317 := hq_rng z1313
        have b1318 := hq_rng z1314
        subst hr1312
        refine W.eq (g2 := F0 m 107 ls [.ref (q + 19)]) rfl ?_
        have fx1319 : V1307 (q + 10) = some (.inl (cs 1, 120, .inl (g2))) := (hq1311.2 (q + 10) _ (hr_10 hR) rfl).trans ((hq26.2 (q + 10) _ (hr_10 hR) rfl).trans ((hq17.2 (q + 10) _ (hr_10 hR) rfl).trans (eV1)))
        have fx1320 : V1307 (q + 14) = some (.inl (cs 1, 120, .inl (g6))) := (hq1311.2 (q + 14) _ (hr_14 hR) rfl).trans ((hq26.2 (q + 14) _ (hr_14 hR) rfl).trans ((hq17.2 (q + 14) _ (hr_14 hR) rfl).trans (eV5)))
        have fx1321 : V1307 (q + 2) = some (.inl (cs 1, 2, .inl (g10))) := (hq1311.2 (q + 2) _ (hr_2 hR) rfl).trans (fx1090)
        exact hq_athrow hx hb hnx hlocks hZ ⟨rfl, rfl, hP, ⟨m_fr, m_bh, m_hd, z1313, z1314, ho1315, by assumption⟩, (hm_JH.of eV1 eV5 eV9 fx1319 fx1320 fx1321 (fun j hj => rfl) (fun j hj => rfl) rfl (hq_rg hI (hr_2 hR) eV9 0 (by decide)).2)⟩ dX13_readLine_107
  · have c21 : ¬ (r16).toInt = (0 : Int) := fun h9 => c21 (hq_eqi.mpr h9)
    refine lv_iconst (v := 0) hx hb dX13_readLine_9 (by decide) ?_
    refine lv_goto (tgt := 79) hx hb dX13_readLine_10 (by decide) ?_
    refine lv_istore_n (lv' := [(1, .int (0)), (0, .ref (mo))]) hx hb dX13_readLine_79 rfl hl (by decide) rfl (fun ls hl => ?_)
    refine lv_iload_n hx hb dX13_readLine_80 rfl (lv_at hl 0 rfl) ?_
    refine lv_iconst (v := -1) hx hb dX13_readLine_81 (by decide) ?_
    refine lv_icmp_ne (tgt := 91) hx hb dX13_readLine_82 (by decide) (fun c1322 => ?_) (fun c1322 => absurd c1322 (by decide))
    refine lv_aload_n hx hb dX13_readLine_91 rfl (lv_at hl 1 rfl) ?_
    refine hp_get (v := .ref (q + 2)) hx hb hts hown hZ ho19 fl_X13_10 rfl dX13_readLine_92 ?_
    refine lv_iconst (v := 1) hx hb dX13_readLine_95 (by decide) ?_
    have fx1323 : V13 (q + 2) = some (.inl (cs 1, 2, .inl (g10))) := (hq17.2 (q + 2) _ (hr_2 hR) rfl).trans (eV9)
    refine hp_iald hx hb hZ fx1323 (by unfold vp_in; decide) dX13_readLine_96 ?_
    refine lv_topi (fun y1324 ey1325 => ?_)
    have b1327 : (y1324).toInt = ((g10) (1 : Int32).toNatClampNeg).toInt := by rw [ey1325]
    have b1326 : hq_ir (hq_lo 8) (hq_hi 8) y1324 := by rw [ey1325]; exact hf12 _ (by decide)
    have b1326 : 0 ≤ (y1324).toInt ∧ (y1324).toInt ≤ 60 := b1326
    refine lv_bipush (v := 60) hx hb dX13_readLine_97 (by decide) ?_
    refine lv_icmp_ne (tgt := 108) hx hb dX13_readLine_99 (by decide) (fun c1328 => ?_) (fun c1328 => ?_)
    · have c1328 : ¬ (y1324).toInt = (60 : Int) := fun h9 => c1328 (hq_eqi.mpr h9)
      refine lv_bipush (v := 60) hx hb dX13_readLine_108 (by decide) ?_
      refine lv_aload_n hx hb dX13_readLine_110 rfl (lv_at hl 1 rfl) ?_
      refine hp_get (v := .ref (q + 2)) hx hb hts hown hZ ho19 fl_X13_10 rfl dX13_readLine_111 ?_
      refine lv_iconst (v := 1) hx hb dX13_readLine_114 (by decide) ?_
      refine hp_iald hx hb hZ fx1323 (by unfold vp_in; decide) dX13_readLine_115 ?_
      refine lv_topi (fun y1329 ey1330 => ?_)
      have b1332 : (y1329).toInt = ((g10) (1 : Int32).toNatClampNeg).toInt := by rw [ey1330]
      have b1331 : hq_ir (hq_lo 8) (hq_hi 8) y1329 := by rw [ey1330]; exact hf12 _ (by decide)
      have b1331 : 0 ≤ (y1329).toInt ∧ (y1329).toInt ≤ 60 := b1331
      refine lv_iadd hx hb dX13_readLine_116 ?_
      refine lv_topi (fun y1333 ey1334 => ?_)
      obtain ⟨k1335, hk1336, b1337, b1338⟩ := hq_add (60) (y1329)
      rw [← ey1334] at hk1336 b1337 b1338
      have hk1336 : (y1333).toInt = (60 : Int) + (y1329).toInt + k1335 * 4294967296 := hk1336
      obtain rfl : k1335 = 0 := by omega
      refine lv_istore_n (lv' := [(2, .int (y1333)), (1, .int (0)), (0, .ref (mo))]) hx hb dX13_readLine_117 rfl hl (by decide) rfl (fun ls hl => ?_)
      refine lv_aload_n hx hb dX13_readLine_118 rfl (lv_at hl 2 rfl) ?_
      refine hp_get (v := .ref (q + 10)) hx hb hts hown hZ ho19 fl_X13_29 rfl dX13_readLine_119 ?_
      refine lv_iload_n hx hb dX13_readLine_122 rfl (lv_at hl 0 rfl) ?_
      refine lv_iload_n hx hb dX13_readLine_123 rfl (lv_at hl 1 rfl) ?_
      have fx1339 : V13 (q + 10) = some (.inl (cs 1, 120, .inl (g2))) := (hq17.2 (q + 10) _ (hr_10 hR) rfl).trans (eV1)
      refine hp_iast hx hb hZ fx1339 (hq_in (by omega) (by omega)) dX13_readLine_124 (fun V1340 _ _ e1341 o1342 hZ => ?_)
      have e1341 : V1340 (q + 10) = some (.inl (cs 1, 120, .inl (upd (g2) ((y1333 : Int32).toNatClampNeg) (0)))) := e1341
      have hl1343 : (0 : Int32).toInt = 0 := by decide
      have hP := hP.put (hr_10 hR) e1341 o1342 (hq_c21 (by omega) (hq_upd hf4 (hq_rng _))) rfl
      obtain ⟨g1344, ge1345⟩ : ∃ g9 : Nat → Int32, g9 = upd (g2) ((y1333 : Int32).toNatClampNeg) (0) := ⟨_, rfl⟩
      have fx1347 : V1340 (q + 10) = some (.inl (cs 1, 120, .inl (g1344))) := by rw [ge1345]; exact e1341
      have hf1346 := hq_rg hP.1 (hr_10 hR) fx1347
      have b1348 : (g1344 (y1333 : Int32).toNatClampNeg).toInt = (0 : Int32).toInt := congrArg Int32.toInt ((congrFun ge1345 _).trans hm_ue)
      have b1349 : (0 : Int32).toInt = 0 := by decide
      refine lv_aload_n hx hb dX13_readLine_125 rfl (lv_at hl 2 rfl) ?_
      have fx1350 : V1340 (mo) = some (.inr (13, hm_o q (m_tp) (m_sz) (m_fr) (m_bh) (m_hd) (m_ft) (m_fa) (m_le) (m_fo) (m_as) (m_fd) (m_bc) (m_bg) (m_bs) (m_be) (m_b0) (m_b1) (m_cm) (m_hc))) := (o1342 (mo) (hq_tne h_mo (hr_10 hR) (by simp))).trans (ho19)
      refine hp_get (v := .ref (q + 11)) hx hb hts hown hZ fx1350 fl_X13_32 rfl dX13_readLine_126 ?_
      refine lv_iload_n hx hb dX13_readLine_129 rfl (lv_at hl 0 rfl) ?_
      refine lv_iconst (v := -1) hx hb dX13_readLine_130 (by decide) ?_
      obtain ⟨hN1353, g1352, eV1351, hf1354⟩ := hq_o21 hP.1 (hr_11 hR)
      refine hp_iast hx hb hZ eV1351 (hq_in (by omega) (by omega)) dX13_readLine_131 (fun V1355 _ _ e1356 o1357 hZ => ?_)
      have e1356 : V1355 (q + 11) = some (.inl (cs 1, 120, .inl (upd (g1352) ((y1333 : Int32).toNatClampNeg) (-1)))) := e1356
      have hl1358 : (-1 : Int32).toInt = -1 := by decide
      have hP := hP.put (hr_11 hR) e1356 o1357 (hq_c21 (by omega) (hq_upd hf1354 (hq_rng _))) rfl
      refine lv_aload_n hx hb dX13_readLine_132 rfl (lv_at hl 2 rfl) ?_
      have fx1359 : V1355 (mo) = some (.inr (13, hm_o q (m_tp) (m_sz) (m_fr) (m_bh) (m_hd) (m_ft) (m_fa) (m_le) (m_fo) (m_as) (m_fd) (m_bc) (m_bg) (m_bs) (m_be) (m_b0) (m_b1) (m_cm) (m_hc))) := (o1357 (mo) (hq_tne h_mo (hr_11 hR) (by simp))).trans (fx1350)
      refine hp_get (v := .ref (q + 12)) hx hb hts hown hZ fx1359 fl_X13_35 rfl dX13_readLine_133 ?_
      refine lv_iload_n hx hb dX13_readLine_136 rfl (lv_at hl 0 rfl) ?_
      refine lv_iconst (v := -1) hx hb dX13_readLine_137 (by decide) ?_
      obtain ⟨hN1362, g1361, eV1360, hf1363⟩ := hq_o21 hP.1 (hr_12 hR)
      refine hp_iast hx hb hZ eV1360 (hq_in (by omega) (by omega)) dX13_readLine_138 (fun V1364 _ _ e1365 o1366 hZ => ?_)
      have e1365 : V1364 (q + 12) = some (.inl (cs 1, 120, .inl (upd (g1361) ((y1333 : Int32).toNatClampNeg) (-1)))) := e1365
      have hl1367 : (-1 : Int32).toInt = -1 := by decide
      have hP := hP.put (hr_12 hR) e1365 o1366 (hq_c21 (by omega) (hq_upd hf1363 (hq_rng _))) rfl
      refine lv_aload_n hx hb dX13_readLine_139 rfl (lv_at hl 2 rfl) ?_
      have fx1368 : V1364 (mo) = some (.inr (13, hm_o q (m_tp) (m_sz) (m_fr) (m_bh) (m_hd) (m_ft) (m_fa) (m_le) (m_fo) (m_as) (m_fd) (m_bc) (m_bg) (m_bs) (m_be) (m_b0) (m_b1) (m_cm) (m_hc))) := (o1366 (mo) (hq_tne h_mo (hr_12 hR) (by simp))).trans (fx1359)
      refine hp_get (v := .ref (q + 13)) hx hb hts hown hZ fx1368 fl_X13_38 rfl dX13_readLine_140 ?_
      refine lv_iload_n hx hb dX13_readLine_143 rfl (lv_at hl 0 rfl) ?_
      refine lv_iconst (v := -1) hx hb dX13_readLine_144 (by decide) ?_
      obtain ⟨hN1371, g1370, eV1369, hf1372⟩ := hq_o21 hP.1 (hr_13 hR)
      refine hp_iast hx hb hZ eV1369 (hq_in (by omega) (by omega)) dX13_readLine_145 (fun V1373 _ _ e1374 o1375 hZ => ?_)
      have e1374 : V1373 (q + 13) = some (.inl (cs 1, 120, .inl (upd (g1370) ((y1333 : Int32).toNatClampNeg) (-1)))) := e1374
      have hl1376 : (-1 : Int32).toInt = -1 := by decide
      have hP := hP.put (hr_13 hR) e1374 o1375 (hq_c21 (by omega) (hq_upd hf1372 (hq_rng _))) rfl
      refine lv_aload_n hx hb dX13_readLine_146 rfl (lv_at hl 2 rfl) ?_
      have fx1377 : V1373 (mo) = some (.inr (13, hm_o q (m_tp) (m_sz) (m_fr) (m_bh) (m_hd) (m_ft) (m_fa) (m_le) (m_fo) (m_as) (m_fd) (m_bc) (m_bg) (m_bs) (m_be) (m_b0) (m_b1) (m_cm) (m_hc))) := (o1375 (mo) (hq_tne h_mo (hr_13 hR) (by simp))).trans (fx1368)
      refine hp_get (v := .ref (q + 14)) hx hb hts hown hZ fx1377 fl_X13_41 rfl dX13_readLine_147 ?_
      refine lv_iload_n hx hb dX13_readLine_150 rfl (lv_at hl 0 rfl) ?_
      refine lv_iconst (v := 0) hx hb dX13_readLine_151 (by decide) ?_
      have fx1378 : V1373 (q + 14) = some (.inl (cs 1, 120, .inl (g6))) := (o1375 (q + 14) (hq_ne q 14 13 (by decide))).trans ((o1366 (q + 14) (hq_ne q 14 12 (by decide))).trans ((o1357 (q + 14) (hq_ne q 14 11 (by decide))).trans ((o1342 (q + 14) (hq_ne q 14 10 (by decide))).trans ((hq17.2 (q + 14) _ (hr_14 hR) rfl).trans (eV5)))))
      refine hp_iast hx hb hZ fx1378 (hq_in (by omega) (by omega)) dX13_readLine_152 (fun V1379 _ _ e1380 o1381 hZ => ?_)
      have e1380 : V1379 (q + 14) = some (.inl (cs 1, 120, .inl (upd (g6) ((y1333 : Int32).toNatClampNeg) (0)))) := e1380
      have hl1382 : (0 : Int32).toInt = 0 := by decide
      have hP := hP.put (hr_14 hR) e1380 o1381 (hq_c21 (by omega) (hq_upd hf8 (show 0 ≤ _ ∧ _ ≤ 8 by constructor <;> omega))) rfl
      obtain ⟨g1383, ge1384⟩ : ∃ g9 : Nat → Int32, g9 = upd (g6) ((y1333 : Int32).toNatClampNeg) (0) := ⟨_, rfl⟩
      have fx1386 : V1379 (q + 14) = some (.inl (cs 1, 120, .inl (g1383))) := by rw [ge1384]; exact e1380
      have hf1385 := hq_rg hP.1 (hr_14 hR) fx1386
      have b1387 : (g1383 (y1333 : Int32).toNatClampNeg).toInt = (0 : Int32).toInt := congrArg Int32.toInt ((congrFun ge1384 _).trans hm_ue)
      have b1388 : (0 : Int32).toInt = 0 := by decide
      refine lv_aload_n hx hb dX13_readLine_153 rfl (lv_at hl 2 rfl) ?_
      have fx1389 : V1379 (mo) = some (.inr (13, hm_o q (m_tp) (m_sz) (m_fr) (m_bh) (m_hd) (m_ft) (m_fa) (m_le) (m_fo) (m_as) (m_fd) (m_bc) (m_bg) (m_bs) (m_be) (m_b0) (m_b1) (m_cm) (m_hc))) := (o1381 (mo) (hq_tne h_mo (hr_14 hR) (by simp))).trans (fx1377)
      refine hp_get (v := .ref (q + 15)) hx hb hts hown hZ fx1389 fl_X13_44 rfl dX13_readLine_154 ?_
      refine lv_iload_n hx hb dX13_readLine_157 rfl (lv_at hl 0 rfl) ?_
      refine lv_iconst (v := 0) hx hb dX13_readLine_158 (by decide) ?_
      obtain ⟨hN1392, g1391, eV1390, hf1393⟩ := hq_o21 hP.1 (hr_15 hR)
      refine hp_iast hx hb hZ eV1390 (hq_in (by omega) (by omega)) dX13_readLine_159 (fun V1394 _ _ e1395 o1396 hZ => ?_)
      have e1395 : V1394 (q + 15) = some (.inl (cs 1, 120, .inl (upd (g1391) ((y1333 : Int32).toNatClampNeg) (0)))) := e1395
      have hl1397 : (0 : Int32).toInt = 0 := by decide
      have hP := hP.put (hr_15 hR) e1395 o1396 (hq_c21 (by omega) (hq_upd hf1393 (show 0 ≤ _ ∧ _ ≤ 8 by constructor <;> omega))) rfl
      refine lv_aload_n hx hb dX13_readLine_160 rfl (lv_at hl 2 rfl) ?_
      have fx1398 : V1394 (mo) = some (.inr (13, hm_o q (m_tp) (m_sz) (m_fr) (m_bh) (m_hd) (m_ft) (m_fa) (m_le) (m_fo) (m_as) (m_fd) (m_bc) (m_bg) (m_bs) (m_be) (m_b0) (m_b1) (m_cm) (m_hc))) := (o1396 (mo) (hq_tne h_mo (hr_15 hR) (by simp))).trans (fx1389)
      refine hp_get (v := .ref (q + 16)) hx hb hts hown hZ fx1398 fl_X13_47 rfl dX13_readLine_161 ?_
      refine lv_iload_n hx hb dX13_readLine_164 rfl (lv_at hl 0 rfl) ?_
      refine lv_iconst (v := 0) hx hb dX13_readLine_165 (by decide) ?_
      obtain ⟨hN1401, g1400, eV1399, hf1402⟩ := hq_o21 hP.1 (hr_16 hR)
      refine hp_iast hx hb hZ eV1399 (hq_in (by omega) (by omega)) dX13_readLine_166 (fun V1403 _ _ e1404 o1405 hZ => ?_)
      have e1404 : V1403 (q + 16) = some (.inl (cs 1, 120, .inl (upd (g1400) ((y1333 : Int32).toNatClampNeg) (0)))) := e1404
      have hl1406 : (0 : Int32).toInt = 0 := by decide
      have hP := hP.put (hr_16 hR) e1404 o1405 (hq_c21 (by omega) (hq_upd hf1402 (show 0 ≤ _ ∧ _ ≤ 29 by constructor <;> omega))) rfl
      refine lv_aload_n hx hb dX13_readLine_167 rfl (lv_at hl 2 rfl) ?_
      have fx1413 : V1403 (mo) = some (.inr (13, hm_o q (m_tp) (m_sz) (m_fr) (m_bh) (m_hd) (m_ft) (m_fa) (m_le) (m_fo) (m_as) (m_fd) (m_bc) (m_bg) (m_bs) (m_be) (m_b0) (m_b1) (m_cm) (m_hc))) := (o1405 (mo) (hq_tne h_mo (hr_16 hR) (by simp))).trans (fx1398)
      refine hp_callv (hp_runV (As := []) (rest := []) hx hb hml hown hts (t_X13_scan l D cs B G  V1403 n hP.1 q hR (mo) h_mo fx1413  (by omega) (by omega) (by omega) (by omega) (by omega) (by omega) (by omega) (by omega) (hm_SC.s0 (by assumption)) (hm_SC.s1 (by assumption) (by first | omega | (have h8 := hm_Is.hd (by assumption) (by omega); omega)))) hZ fx1413 cv_X13_111 rfl rfl ⟨Nat.le_of_ble_eq_true rfl, Nat.le_of_ble_eq_true rfl⟩ rfl hl.1 rfl (Nat.le_of_ble_eq_true rfl) dX13_readLine_168 ⟨(Nat.le_of_ble_eq_true rfl), (Nat.le_of_ble_eq_true rfl)⟩) hZ (fun V1407 n1408 _ _ hw1409 hZ => ?_)
      obtain ⟨rfl, hq1411, ⟨z1414, z1415, z1416, ho1417, hi1418⟩⟩ := hw1409
      have hP := hP.trans hq1411 (by intro g h; simp_all)
      have b1419 := hq_rng z1414
      have b1420 := hq_rng z1415
      have b1421 := hq_rng z1416
      refine lv_iload_n hx hb dX13_readLine_171 rfl (lv_at hl 1 rfl) ?_
      refine lv_iconst (v := 4) hx hb dX13_readLine_172 (by decide) ?_
      refine lv_icmp_eq (tgt := 181) hx hb dX13_readLine_173 (by decide) (fun c1422 => absurd c1422 (by decide)) (fun c1422 => ?_)
      refine lv_iload_n hx hb dX13_readLine_176 rfl (lv_at hl 1 rfl) ?_
      refine lv_iconst (v := 5) hx hb dX13_readLine_177 (by decide) ?_
      refine lv_icmp_ne (tgt := 194) hx hb dX13_readLine_178 (by decide) (fun c1423 => ?_) (fun c1423 => absurd c1423 (by decide))
      refine lv_iload_n hx hb dX13_readLine_194 rfl (lv_at hl 1 rfl) ?_
      refine lv_iconst (v := 2) hx hb dX13_readLine_195 (by decide) ?_
      refine lv_icmp_eq (tgt := 204) hx hb dX13_readLine_196 (by decide) (fun c1424 => absurd c1424 (by decide)) (fun c1424 => ?_)
      refine lv_aload_n hx hb dX13_readLine_199 rfl (lv_at hl 2 rfl) ?_
      refine lv_iload_n hx hb dX13_readLine_200 rfl (lv_at hl 0 rfl) ?_
      have fx1438 : V1407 (q + 10) = some (.inl (cs 1, 120, .inl (g1344))) := (hq1411.2 (q + 10) _ (hr_10 hR) rfl).trans ((o1405 (q + 10) (hq_ne q 10 16 (by decide))).trans ((o1396 (q + 10) (hq_ne q 10 15 (by decide))).trans ((o1381 (q + 10) (hq_ne q 10 14 (by decide))).trans ((o1375 (q + 10) (hq_ne q 10 13 (by decide))).trans ((o1366 (q + 10) (hq_ne q 10 12 (by decide))).trans ((o1357 (q + 10) (hq_ne q 10 11 (by decide))).trans (fx1347)))))))
      have fx1439 : V1407 (q + 14) = some (.inl (cs 1, 120, .inl (g1383))) := (hq1411.2 (q + 14) _ (hr_14 hR) rfl).trans ((o1405 (q + 14) (hq_ne q 14 16 (by decide))).trans ((o1396 (q + 14) (hq_ne q 14 15 (by decide))).trans (fx1386)))
      have fx1440 : V1407 (q + 2) = some (.inl (cs 1, 2, .inl (g10))) := (hq1411.2 (q + 2) _ (hr_2 hR) rfl).trans ((o1405 (q + 2) (hq_ne q 2 16 (by decide))).trans ((o1396 (q + 2) (hq_ne q 2 15 (by decide))).trans ((o1381 (q + 2) (hq_ne q 2 14 (by decide))).trans ((o1375 (q + 2) (hq_ne q 2 13 (by decide))).trans ((o1366 (q + 2) (hq_ne q 2 12 (by decide))).trans ((o1357 (q + 2) (hq_ne q 2 11 (by decide))).trans ((o1342 (q + 2) (hq_ne q 2 10 (by decide))).trans (fx1323))))))))
      refine hq_callx (hq_runV (As := [.int (y1333)]) (rest := []) hx hb hml hown hts (t_X13_readWhere l D cs B G  V1407 n hP.1 q hR (mo) h_mo (y1333) ho1417  (by omega) (by omega) (by omega) (by omega) (by omega) (by omega) (by omega) (by omega) (by assumption) (by omega) (by omega)) hZ ho1417 cv_X13_185 rfl rfl ⟨Nat.le_of_ble_eq_true rfl, Nat.le_of_ble_eq_true rfl⟩ rfl hl.1 rfl (Nat.le_of_ble_eq_true rfl) dX13_readLine_201 ⟨(Nat.le_of_ble_eq_true rfl), (Nat.le_of_ble_eq_true rfl)⟩) hZ hnx hlocks (by rintro x9 V9 n9 ⟨rfl, rfl, hq9, ⟨z1431x, z1432x, z1433x, z1434x, z1435x, hox0, hix00⟩⟩; have hbxz1431 := hq_rng z1431x; have hbxz1432 := hq_rng z1432x; have hbxz1433 := hq_rng z1433x; have hbxz1434 := hq_rng z1434x; have hbxz1435 := hq_rng z1435x; exact ⟨rfl, rfl, hP.trans hq9 (by intro g h; simp_all), ⟨z1431x, z1432x, z1433x, z1434x, z1435x, hox0, by assumption⟩, ((hm_JH.of eV1 eV5 eV9 fx1438 fx1439 fx1440 (fun j hj => (congrFun ge1345 j).trans (hm_ub (by omega) hj)) (fun j hj => (congrFun ge1384 j).trans (hm_ub (by omega) hj)) rfl (hq_rg hI (hr_2 hR) eV9 0 (by decide)).2)).keep hR (fun x t hx hg => hq9.2 x t hx (by simp [hg]))⟩) (fun v9 V1425 n1426 _ _ hw1427 hZ => ?_)
      obtain ⟨rfl, rfl, hq1429, ⟨z1431, z1432, z1433, z1434, z1435, ho1436, hi1437⟩⟩ := hw1427
      refine W.eq (g2 := F0 m 204 ls []) rfl ?_
      have hP := hP.trans hq1429 (by intro g h; simp_all)
      have b1441 := hq_rng z1431
      have b1442 := hq_rng z1432
      have b1443 := hq_rng z1433
      have b1444 := hq_rng z1434
      have b1445 := hq_rng z1435
      refine lv_iload_n hx hb dX13_readLine_204 rfl (lv_at hl 1 rfl) ?_
      refine lv_iconst (v := 2) hx hb dX13_readLine_205 (by decide) ?_
      refine lv_icmp_eq (tgt := 219) hx hb dX13_readLine_206 (by decide) (fun c1446 => absurd c1446 (by decide)) (fun c1446 => ?_)
      refine lv_iload_n hx hb dX13_readLine_209 rfl (lv_at hl 1 rfl) ?_
      refine lv_iconst (v := 3) hx hb dX13_readLine_210 (by decide) ?_
      refine lv_icmp_eq (tgt := 219) hx hb dX13_readLine_211 (by decide) (fun c1447 => absurd c1447 (by decide)) (fun c1447 => ?_)
      refine lv_aload_n hx hb dX13_readLine_214 rfl (lv_at hl 2 rfl) ?_
      refine lv_iload_n hx hb dX13_readLine_215 rfl (lv_at hl 0 rfl) ?_
      have fx1461 : V1425 (q + 10) = some (.inl (cs 1, 120, .inl (g1344))) := (hq1429.2 (q + 10) _ (hr_10 hR) rfl).trans (fx1438)
      have fx1462 : V1425 (q + 14) = some (.inl (cs 1, 120, .inl (g1383))) := (hq1429.2 (q + 14) _ (hr_14 hR) rfl).trans (fx1439)
      have fx1463 : V1425 (q + 2) = some (.inl (cs 1, 2, .inl (g10))) := (hq1429.2 (q + 2) _ (hr_2 hR) rfl).trans (fx1440)
      refine hq_callx (hq_runV (As := [.int (y1333)]) (rest := []) hx hb hml hown hts (t_X13_readSlot l D cs B G  V1425 n hP.1 q hR (mo) h_mo (y1333) ho1436  (by omega) (by omega) (by omega) (by omega) (by omega) (by omega) (by omega) (by omega) (by assumption) (by omega) (by omega)) hZ ho1436 cv_X13_189 rfl rfl ⟨Nat.le_of_ble_eq_true rfl, Nat.le_of_ble_eq_true rfl⟩ rfl hl.1 rfl (Nat.le_of_ble_eq_true rfl) dX13_readLine_216 ⟨(Nat.le_of_ble_eq_true rfl), (Nat.le_of_ble_eq_true rfl)⟩) hZ hnx hlocks (by rintro x9 V9 n9 ⟨rfl, rfl, hq9, ⟨z1454x, z1455x, z1456x, z1457x, z1458x, hox0, hix00⟩⟩; have hbxz1454 := hq_rng z1454x; have hbxz1455 := hq_rng z1455x; have hbxz1456 := hq_rng z1456x; have hbxz1457 := hq_rng z1457x; have hbxz1458 := hq_rng z1458x; exact ⟨rfl, rfl, hP.trans hq9 (by intro g h; simp_all), ⟨z1454x, z1455x, z1456x, z1457x, z1458x, hox0, by assumption⟩, ((hm_JH.of eV1 eV5 eV9 fx1461 fx1462 fx1463 (fun j hj => (congrFun ge1345 j).trans (hm_ub (by omega) hj)) (fun j hj => (congrFun ge1384 j).trans (hm_ub (by omega) hj)) rfl (hq_rg hI (hr_2 hR) eV9 0 (by decide)).2)).keep hR (fun x t hx hg => hq9.2 x t hx (by simp [hg]))⟩) (fun v9 V1448 n1449 _ _ hw1450 hZ => ?_)
      obtain ⟨rfl, rfl, hq1452, ⟨z1454, z1455, z1456, z1457, z1458, ho1459, hi1460⟩⟩ := hw1450
      refine W.eq (g2 := F0 m 219 ls []) rfl ?_
      have hP := hP.trans hq1452 (by intro g h; simp_all)
      have b1464 := hq_rng z1454
      have b1465 := hq_rng z1455
      have b1466 := hq_rng z1456
      have b1467 := hq_rng z1457
      have b1468 := hq_rng z1458
      refine lv_iload_n hx hb dX13_readLine_219 rfl (lv_at hl 1 rfl) ?_
      refine lv_iconst (v := 3) hx hb dX13_readLine_220 (by decide) ?_
      refine lv_icmp_ne (tgt := 229) hx hb dX13_readLine_221 (by decide) (fun c1469 => ?_) (fun c1469 => absurd c1469 (by decide))
      refine lv_iload_n hx hb dX13_readLine_229 rfl (lv_at hl 1 rfl) ?_
      refine lv_if_eq (tgt := 248) hx hb dX13_readLine_230 (by decide) (fun c1470 => ?_) (fun c1470 => absurd (by decide) c1470)
      refine lv_aload_n hx hb dX13_readLine_248 rfl (lv_at hl 2 rfl) ?_
      refine hp_get (v := .int (z1456)) hx hb hts hown hZ ho1459 fl_X13_83 rfl dX13_readLine_249 ?_
      refine lv_iconst (v := 3) hx hb dX13_readLine_252 (by decide) ?_
      refine lv_icmp_eq (tgt := 262) hx hb dX13_readLine_253 (by decide) (fun c1471 => ?_) (fun c1471 => ?_)
      · have c1471 : (z1456).toInt = (3 : Int) := hq_eqi.mp c1471
        refine lv_iload_n hx hb dX13_readLine_262 rfl (lv_at hl 1 rfl) ?_
        refine lv_iconst (v := 4) hx hb dX13_readLine_263 (by decide) ?_
        refine lv_icmp_ne (tgt := 282) hx hb dX13_readLine_264 (by decide) (fun c1472 => ?_) (fun c1472 => absurd c1472 (by decide))
        refine lv_iload_n hx hb dX13_readLine_282 rfl (lv_at hl 1 rfl) ?_
        refine lv_iconst (v := 1) hx hb dX13_readLine_283 (by decide) ?_
        refine lv_icmp_eq (tgt := 306) hx hb dX13_readLine_284 (by decide) (fun c1473 => absurd c1473 (by decide)) (fun c1473 => ?_)
        have h3b := hm_SC.a3 (by assumption : hm_SC m_sz z1454 z1455 z1456) (by omega)
        refine lv_aload_n hx hb dX13_readLine_287 rfl (lv_at hl 2 rfl) ?_
        refine hp_get (v := .int (z1455)) hx hb hts hown hZ ho1459 fl_X13_76 rfl dX13_readLine_288 ?_
        refine lv_aload_n hx hb dX13_readLine_291 rfl (lv_at hl 2 rfl) ?_
        refine hp_get (v := .int (z1454)) hx hb hts hown hZ ho1459 fl_X13_60 rfl dX13_readLine_292 ?_
        refine lv_isub hx hb dX13_readLine_295 ?_
        refine lv_topi (fun y1474 ey1475 => ?_)
        obtain ⟨k1476, hk1477, b1478, b1479⟩ := hq_sub (z1455) (z1454)
        rw [← ey1475] at hk1477 b1478 b1479
        have hk1477 : (y1474).toInt = (z1455).toInt - (z1454).toInt + k1476 * 4294967296 := hk1477
        obtain rfl : k1476 = 0 := by omega
        refine lv_iconst (v := 2) hx hb dX13_readLine_296 (by decide) ?_
        refine lv_icmp_ne (tgt := 306) hx hb dX13_readLine_297 (by decide) (fun c1480 => ?_) (fun c1480 => ?_)
        · have c1480 : ¬ (y1474).toInt = (2 : Int) := fun h9 => c1480 (hq_eqi.mpr h9)
          refine lv_aload_n hx hb dX13_readLine_306 rfl (lv_at hl 2 rfl) ?_
          refine hp_get (v := .ref (q + 14)) hx hb hts hown hZ ho1459 fl_X13_41 rfl dX13_readLine_307 ?_
          refine lv_iload_n hx hb dX13_readLine_310 rfl (lv_at hl 0 rfl) ?_
          refine lv_aload_n hx hb dX13_readLine_311 rfl (lv_at hl 2 rfl) ?_
          refine lv_aload_n hx hb dX13_readLine_312 rfl (lv_at hl 2 rfl) ?_
          refine hp_get (v := .ref (q + 5)) hx hb hts hown hZ ho1459 fl_X13_23 rfl dX13_readLine_313 ?_
          refine lv_iload_n hx hb dX13_readLine_316 rfl (lv_at hl 0 rfl) ?_
          have h3a := hm_SC.a3 (by assumption : hm_SC m_sz z1454 z1455 z1456) (by omega)
          refine hp_calli (hp_runV (As := [.ref (q + 5), .int (y1333)]) (rest := [.int (y1333), .ref (q + 14)]) hx hb hml hown hts (t_X13_takeLetters l D cs B G  V1448 n hP.1 q hR (mo) h_mo (q + 5) (hr_5 hR) (y1333) ho1459  (by omega) (by omega) (by omega) (by omega) (by omega) (by omega) (by omega) (by omega) (by assumption) (by omega) (by omega) (by omega)) hZ ho1459 cv_X13_198 rfl rfl ⟨Nat.le_of_ble_eq_true rfl, Nat.le_of_ble_eq_true rfl⟩ rfl hl.1 rfl (Nat.le_of_ble_eq_true rfl) dX13_readLine_317 ⟨(Nat.le_of_ble_eq_true rfl), (Nat.le_of_ble_eq_true rfl)⟩) hZ (fun r1484 V1481 n1482 _ _ hw1483 hZ => ?_)
          obtain ⟨rfl, hq1485, ⟨z1487, z1488, z1489, ho1490, hi1491⟩, hr1486⟩ := hw1483
          have hP := hP.trans hq1485 (by intro g h; simp_all)
          have b1492 := hq_rng z1487
          have b1493 := hq_rng z1488
          have b1494 := hq_rng z1489
          have b1495 := hq_rng r1484
          have fx1496 : V1481 (q + 14) = some (.inl (cs 1, 120, .inl (g1383))) := (hq1485.2 (q + 14) _ (hr_14 hR) rfl).trans ((hq1452.2 (q + 14) _ (hr_14 hR) rfl).trans (fx1462))
          refine hp_iast hx hb hZ fx1496 (hq_in (by omega) (by omega)) dX13_readLine_320 (fun V1497 _ _ e1498 o1499 hZ => ?_)
          have e1498 : V1497 (q + 14) = some (.inl (cs 1, 120, .inl (upd (g1383) ((y1333 : Int32).toNatClampNeg) (r1484)))) := e1498
          have hP := hP.put (hr_14 hR) e1498 o1499 (hq_c21 (by omega) (hq_upd hf1385 (show 0 ≤ _ ∧ _ ≤ 8 by constructor <;> omega))) rfl
          obtain ⟨g1500, ge1501⟩ : ∃ g9 : Nat → Int32, g9 = upd (g1383) ((y1333 : Int32).toNatClampNeg) (r1484) := ⟨_, rfl⟩
          have fx1503 : V1497 (q + 14) = some (.inl (cs 1, 120, .inl (g1500))) := by rw [ge1501]; exact e1498
          have hf1502 := hq_rg hP.1 (hr_14 hR) fx1503
          have b1504 : (g1500 (y1333 : Int32).toNatClampNeg).toInt = (r1484 : Int32).toInt := congrArg Int32.toInt ((congrFun ge1501 _).trans hm_ue)
          refine lv_iload_n hx hb dX13_readLine_321 rfl (lv_at hl 1 rfl) ?_
          refine lv_if_eq (tgt := 330) hx hb dX13_readLine_322 (by decide) (fun c1505 => ?_) (fun c1505 => absurd (by decide) c1505)
          refine lv_aload_n hx hb dX13_readLine_330 rfl (lv_at hl 2 rfl) ?_
          refine va_ldcS (tx := (hp_so.getD 5 ("", 0, "")).2.2) (q := cs (100 + 5)) hx hb hown (hZ.2.2.2.2.2.2.2.2.2.2 5 (by decide)) dX13_readLine_331 ?_
          have fx1512 : V1497 (mo) = some (.inr (13, hm_o q (m_tp) (m_sz) (z1487) (z1488) (z1489) (z1457) (z1458) (m_le) (m_fo) (m_as) (m_fd) (m_bc) (m_bg) (m_bs) (m_be) (m_b0) (m_b1) (m_cm) (m_hc))) := (o1499 (mo) (hq_tne h_mo (hr_14 hR) (by simp))).trans (ho1490)
          have fx1520 : V1497 (q + 10) = some (.inl (cs 1, 120, .inl (g1344))) := (o1499 (q + 10) (hq_ne q 10 14 (by decide))).trans ((hq1485.2 (q + 10) _ (hr_10 hR) rfl).trans ((hq1452.2 (q + 10) _ (hr_10 hR) rfl).trans (fx1461)))
          have fx1521 : V1497 (q + 2) = some (.inl (cs 1, 2, .inl (g10))) := (o1499 (q + 2) (hq_ne q 2 14 (by decide))).trans ((hq1485.2 (q + 2) _ (hr_2 hR) rfl).trans ((hq1452.2 (q + 2) _ (hr_2 hR) rfl).trans (fx1463)))
          refine hq_callx (hq_runV (As := [.ref (cs (100 + 5))]) (rest := []) hx hb hml hown hts (t_X13_need l D cs B G  V1497 n hP.1 q hR (mo) h_mo 5 (by decide) fx1512  (by omega) (by omega) (by omega) (by omega) (by omega) (by omega) (by omega) (by omega) (by assumption) ) hZ fx1512 cv_X13_172 rfl rfl ⟨Nat.le_of_ble_eq_true rfl, Nat.le_of_ble_eq_true rfl⟩ rfl hl.1 rfl (Nat.le_of_ble_eq_true rfl) dX13_readLine_333 ⟨(Nat.le_of_ble_eq_true rfl), (Nat.le_of_ble_eq_true rfl)⟩) hZ hnx hlocks (by rintro x9 V9 n9 ⟨rfl, rfl, hq9, ⟨z1513x, z1514x, z1515x, z1516x, z1517x, hox0, hix00⟩⟩; have hbxz1513 := hq_rng z1513x; have hbxz1514 := hq_rng z1514x; have hbxz1515 := hq_rng z1515x; have hbxz1516 := hq_rng z1516x; have hbxz1517 := hq_rng z1517x; exact ⟨rfl, rfl, hP.trans hq9 (by intro g h; simp_all), ⟨z1513x, z1514x, z1515x, z1516x, z1517x, hox0, by assumption⟩, ((hm_JH.of eV1 eV5 eV9 fx1520 fx1503 fx1521 (fun j hj => (congrFun ge1345 j).trans (hm_ub (by omega) hj)) (fun j hj => ((congrFun ge1501 j).trans (hm_ub (by omega) hj)).trans ((congrFun ge1384 j).trans (hm_ub (by omega) hj))) rfl (hq_rg hI (hr_2 hR) eV9 0 (by decide)).2)).keep hR (fun x t hx hg => hq9.2 x t hx (by simp [hg]))⟩) (fun v9 V1506 n1507 _ _ hw1508 hZ => ?_)
          obtain ⟨rfl, rfl, hq1510, ⟨z1513, z1514, z1515, z1516, z1517, ho1518, hi1519⟩⟩ := hw1508
          refine W.eq (g2 := F0 m 336 ls []) rfl ?_
          have hP := hP.trans hq1510 (by intro g h; simp_all)
          have b1522 := hq_rng z1513
          have b1523 := hq_rng z1514
          have b1524 := hq_rng z1515
          have b1525 := hq_rng z1516
          have b1526 := hq_rng z1517
          refine lv_aload_n hx hb dX13_readLine_336 rfl (lv_at hl 2 rfl) ?_
          refine hp_get (v := .int (z1515)) hx hb hts hown hZ ho1518 fl_X13_83 rfl dX13_readLine_337 ?_
          refine lv_iconst (v := 3) hx hb dX13_readLine_340 (by decide) ?_
          refine lv_icmp_eq (tgt := 350) hx hb dX13_readLine_341 (by decide) (fun c1527 => ?_) (fun c1527 => ?_)
          · have c1527 : (z1515).toInt = (3 : Int) := hq_eqi.mp c1527
            refine lv_aload_n hx hb dX13_readLine_350 rfl (lv_at hl 2 rfl) ?_
            refine hp_get (v := .ref (q + 15)) hx hb hts hown hZ ho1518 fl_X13_44 rfl dX13_readLine_351 ?_
            refine lv_iload_n hx hb dX13_readLine_354 rfl (lv_at hl 0 rfl) ?_
            refine lv_aload_n hx hb dX13_readLine_355 rfl (lv_at hl 2 rfl) ?_
            refine lv_aload_n hx hb dX13_readLine_356 rfl (lv_at hl 2 rfl) ?_
            refine hp_get (v := .ref (q + 6)) hx hb hts hown hZ ho1518 fl_X13_26 rfl dX13_readLine_357 ?_
            refine lv_iload_n hx hb dX13_readLine_360 rfl (lv_at hl 0 rfl) ?_
            have h3a := hm_SC.a3 (by assumption : hm_SC m_sz z1513 z1514 z1515) (by omega)
            refine hp_calli (hp_runV (As := [.ref (q + 6), .int (y1333)]) (rest := [.int (y1333), .ref (q + 15)]) hx hb hml hown hts (t_X13_takeLetters l D cs B G  V1506 n hP.1 q hR (mo) h_mo (q + 6) (hr_6 hR) (y1333) ho1518  (by omega) (by omega) (by omega) (by omega) (by omega) (by omega) (by omega) (by omega) (by assumption) (by omega) (by omega) (by omega)) hZ ho1518 cv_X13_198 rfl rfl ⟨Nat.le_of_ble_eq_true rfl, Nat.le_of_ble_eq_true rfl⟩ rfl hl.1 rfl (Nat.le_of_ble_eq_true rfl) dX13_readLine_361 ⟨(Nat.le_of_ble_eq_true rfl), (Nat.le_of_ble_eq_true rfl)⟩) hZ (fun r1531 V1528 n1529 _ _ hw1530 hZ => ?_)
            obtain ⟨rfl, hq1532, ⟨z1534, z1535, z1536, ho1537, hi1538⟩, hr1533⟩ := hw1530
            have hP := hP.trans hq1532 (by intro g h; simp_all)
            have b1539 := hq_rng z1534
            have b1540 := hq_rng z1535
            have b1541 := hq_rng z1536
            have b1542 := hq_rng r1531
            obtain ⟨hN1545, g1544, eV1543, hf1546⟩ := hq_o21 hP.1 (hr_15 hR)
            refine hp_iast hx hb hZ eV1543 (hq_in (by omega) (by omega)) dX13_readLine_364 (fun V1547 _ _ e1548 o1549 hZ => ?_)
            have e1548 : V1547 (q + 15) = some (.inl (cs 1, 120, .inl (upd (g1544) ((y1333 : Int32).toNatClampNeg) (r1531)))) := e1548
            have hP := hP.put (hr_15 hR) e1548 o1549 (hq_c21 (by omega) (hq_upd hf1546 (show 0 ≤ _ ∧ _ ≤ 8 by constructor <;> omega))) rfl
            refine lv_iload_n hx hb dX13_readLine_365 rfl (lv_at hl 1 rfl) ?_
            refine lv_iconst (v := 2) hx hb dX13_readLine_366 (by decide) ?_
            refine lv_icmp_ne (tgt := 390) hx hb dX13_readLine_367 (by decide) (fun c1550 => ?_) (fun c1550 => absurd c1550 (by decide))
            refine lv_aload_n hx hb dX13_readLine_390 rfl (lv_at hl 2 rfl) ?_
            have fx1551 : V1547 (mo) = some (.inr (13, hm_o q (m_tp) (m_sz) (z1534) (z1535) (z1536) (z1516) (z1517) (m_le) (m_fo) (m_as) (m_fd) (m_bc) (m_bg) (m_bs) (m_be) (m_b0) (m_b1) (m_cm) (m_hc))) := (o1549 (mo) (hq_tne h_mo (hr_15 hR) (by simp))).trans (ho1537)
            refine hp_get (v := .ref (q + 2)) hx hb hts hown hZ fx1551 fl_X13_10 rfl dX13_readLine_391 ?_
            refine lv_iconst (v := 1) hx hb dX13_readLine_394 (by decide) ?_
            refine lv_dup2_11 hx hb dX13_readLine_395 rfl rfl ?_
            have fx1552 : V1547 (q + 2) = some (.inl (cs 1, 2, .inl (g10))) := (o1549 (q + 2) (hq_ne q 2 15 (by decide))).trans ((hq1532.2 (q + 2) _ (hr_2 hR) rfl).trans ((hq1510.2 (q + 2) _ (hr_2 hR) rfl).trans (fx1521)))
            refine hp_iald hx hb hZ fx1552 (by unfold vp_in; decide) dX13_readLine_396 ?_
            refine lv_topi (fun y1553 ey1554 => ?_)
            have b1556 : (y1553).toInt = ((g10) (1 : Int32).toNatClampNeg).toInt := by rw [ey1554]
            have b1555 : hq_ir (hq_lo 8) (hq_hi 8) y1553 := by rw [ey1554]; exact hf12 _ (by decide)
            have b1555 : 0 ≤ (y1553).toInt ∧ (y1553).toInt ≤ 60 := b1555
            refine lv_iconst (v := 1) hx hb dX13_readLine_397 (by decide) ?_
            refine lv_iadd hx hb dX13_readLine_398 ?_
            refine lv_topi (fun y1557 ey1558 => ?_)
            obtain ⟨k1559, hk1560, b1561, b1562⟩ := hq_add (y1553) (1)
            rw [← ey1558] at hk1560 b1561 b1562
            have hk1560 : (y1557).toInt = (y1553).toInt + (1 : Int) + k1559 * 4294967296 := hk1560
            obtain rfl : k1559 = 0 := by omega
            refine hp_iast hx hb hZ fx1552 (by unfold vp_in; decide) dX13_readLine_399 (fun V1563 _ _ e1564 o1565 hZ => ?_)
            have e1564 : V1563 (q + 2) = some (.inl (cs 1, 2, .inl (upd (g10) ((1 : Int32).toNatClampNeg) (y1557)))) := e1564
            have hP := hP.put (hr_2 hR) e1564 o1565 (hq_c21 (by omega) (hq_upd hf12 (show 0 ≤ _ ∧ _ ≤ 60 by constructor <;> omega))) rfl
            obtain ⟨g1566, ge1567⟩ : ∃ g9 : Nat → Int32, g9 = upd (g10) ((1 : Int32).toNatClampNeg) (y1557) := ⟨_, rfl⟩
            have fx1569 : V1563 (q + 2) = some (.inl (cs 1, 2, .inl (g1566))) := by rw [ge1567]; exact e1564
            have hf1568 := hq_rg hP.1 (hr_2 hR) fx1569
            have b1570 : (g1566 (1 : Int32).toNatClampNeg).toInt = (y1557 : Int32).toInt := congrArg Int32.toInt ((congrFun ge1567 _).trans hm_ue)
            have fx1571 : V1563 (mo) = some (.inr (13, hm_o q (m_tp) (m_sz) (z1534) (z1535) (z1536) (z1516) (z1517) (m_le) (m_fo) (m_as) (m_fd) (m_bc) (m_bg) (m_bs) (m_be) (m_b0) (m_b1) (m_cm) (m_hc))) := (o1565 (mo) (hq_tne h_mo (hr_2 hR) (by simp))).trans (fx1551)
            have fx1572 : V1563 (q + 10) = some (.inl (cs 1, 120, .inl (g1344))) := (o1565 (q + 10) (hq_ne q 10 2 (by decide))).trans ((o1549 (q + 10) (hq_ne q 10 15 (by decide))).trans ((hq1532.2 (q + 10) _ (hr_10 hR) rfl).trans ((hq1510.2 (q + 10) _ (hr_10 hR) rfl).trans (fx1520))))
            have fx1573 : V1563 (q + 14) = some (.inl (cs 1, 120, .inl (g1500))) := (o1565 (q + 14) (hq_ne q 14 2 (by decide))).trans ((o1549 (q + 14) (hq_ne q 14 15 (by decide))).trans ((hq1532.2 (q + 14) _ (hr_14 hR) rfl).trans ((hq1510.2 (q + 14) _ (hr_14 hR) rfl).trans (fx1503))))
            exact hq_vret hx hb hr hlocks hZ ⟨rfl, rfl, hP, ⟨z1534, z1535, z1536, z1516, z1517, fx1571, by assumption⟩, ⟨(hm_JH.of eV1 eV5 eV9 fx1572 fx1573 fx1569 (fun j hj => (congrFun ge1345 j).trans (hm_ub (by omega) hj)) (fun j hj => ((congrFun ge1501 j).trans (hm_ub (by omega) hj)).trans ((congrFun ge1384 j).trans (hm_ub (by omega) hj))) ((congrFun ge1567 0).trans (hm_un (by decide))) (hq_rg hI (hr_2 hR) eV9 0 (by decide)).2), (hm_JJ.of (l := y1333) eV1 eV5 eV9 fx1572 fx1573 fx1569 (by omega) (by omega) (fun j hj => (congrFun ge1345 j).trans (hm_un hj)) (fun j hj => ((congrFun ge1501 j).trans (hm_un hj)).trans ((congrFun ge1384 j).trans (hm_un hj))) (by rw [show g1566 (1 : Int32).toNatClampNeg = _ from (congrFun ge1567 _).trans hm_ue]; omega) (fun h9 => by rw [show g1344 y1333.toNatClampNeg = 0 from (congrFun ge1345 _).trans hm_ue] at h9; exact absurd h9 (by decide)))⟩⟩ dX13_readLine_400
          · have c1527 : ¬ (z1515).toInt = (3 : Int) := fun h9 => c1527 (hq_eqi.mpr h9)
            refine lv_aload_n hx hb dX13_readLine_344 rfl (lv_at hl 2 rfl) ?_
            refine lv_iconst (v := 1) hx hb dX13_readLine_345 (by decide) ?_
            have hl1583 : (1 : Int32).toInt = 1 := by decide
            refine hp_callq (hp_runV (As := [.int (1)]) (rest := []) hx hb hml hown hts (t_X13_wrong l D cs B G  V1506 n hP.1 q hR (mo) h_mo (1) ho1518  (by omega) (by omega) (by omega) (by omega) (by omega) (by omega) (by omega) (by omega) ) hZ ho1518 cv_X13_107 rfl rfl ⟨Nat.le_of_ble_eq_true rfl, Nat.le_of_ble_eq_true rfl⟩ rfl hl.1 rfl (Nat.le_of_ble_eq_true rfl) dX13_readLine_346 ⟨(Nat.le_of_ble_eq_true rfl), (Nat.le_of_ble_eq_true rfl)⟩) hZ (fun r1577 V1574 n1575 _ _ hw1576 hZ => ?_)
            obtain ⟨rfl, hq1578, ⟨z1580, z1581, ho1582⟩, hr1579⟩ := hw1576
            have hP := hP.trans hq1578 (by intro g h; simp_all)
            have b1584 := hq_rng z1580
            have b1585 := hq_rng z1581
            subst hr1579
            refine W.eq (g2 := F0 m 349 ls [.ref (q + 19)]) rfl ?_
            have fx1586 : V1574 (q + 10) = some (.inl (cs 1, 120, .inl (g1344))) := (hq1578.2 (q + 10) _ (hr_10 hR) rfl).trans ((hq1510.2 (q + 10) _ (hr_10 hR) rfl).trans (fx1520))
            have fx1587 : V1574 (q + 14) = some (.inl (cs 1, 120, .inl (g1500))) := (hq1578.2 (q + 14) _ (hr_14 hR) rfl).trans ((hq1510.2 (q + 14) _ (hr_14 hR) rfl).trans (fx1503))
            have fx1588 : V1574 (q + 2) = some (.inl (cs 1, 2, .inl (g10))) := (hq1578.2 (q + 2) _ (hr_2 hR) rfl).trans ((hq1510.2 (q + 2) _ (hr_2 hR) rfl).trans (fx1521))
            exact hq_athrow hx hb hnx hlocks hZ ⟨rfl, rfl, hP, ⟨z1513, z1514, z1515, z1580, z1581, ho1582, by assumption⟩, (hm_JH.of eV1 eV5 eV9 fx1586 fx1587 fx1588 (fun j hj => (congrFun ge1345 j).trans (hm_ub (by omega) hj)) (fun j hj => ((congrFun ge1501 j).trans (hm_ub (by omega) hj)).trans ((congrFun ge1384 j).trans (hm_ub (by omega) hj))) rfl (hq_rg hI (hr_2 hR) eV9 0 (by decide)).2)⟩ dX13_readLine_349
        · have c1480 : (y1474).toInt = (2 : Int) := hq_eqi.mp c1480
          refine lv_aload_n hx hb dX13_readLine_300 rfl (lv_at hl 2 rfl) ?_
          refine lv_iconst (v := 5) hx hb dX13_readLine_301 (by decide) ?_
          have hl1598 : (5 : Int32).toInt = 5 := by decide
          refine hp_callq (hp_runV (As := [.int (5)]) (rest := []) hx hb hml hown hts (t_X13_wrong l D cs B G  V1448 n hP.1 q hR (mo) h_mo (5) ho1459  (by omega) (by omega) (by omega) (by omega) (by omega) (by omega) (by omega) (by omega) ) hZ ho1459 cv_X13_107 rfl rfl ⟨Nat.le_of_ble_eq_true rfl, Nat.le_of_ble_eq_true rfl⟩ rfl hl.1 rfl (Nat.le_of_ble_eq_true rfl) dX13_readLine_302 ⟨(Nat.le_of_ble_eq_true rfl), (Nat.le_of_ble_eq_true rfl)⟩) hZ (fun r1592 V1589 n1590 _ _ hw1591 hZ => ?_)
          obtain ⟨rfl, hq1593, ⟨z1595, z1596, ho1597⟩, hr1594⟩ := hw1591
          have hP := hP.trans hq1593 (by intro g h; simp_all)
          have b1599 := hq_rng z1595
          have b1600 := hq_rng z1596
          subst hr1594
          refine W.eq (g2 := F0 m 305 ls [.ref (q + 19)]) rfl ?_
          have fx1601 : V1589 (q + 10) = some (.inl (cs 1, 120, .inl (g1344))) := (hq1593.2 (q + 10) _ (hr_10 hR) rfl).trans ((hq1452.2 (q + 10) _ (hr_10 hR) rfl).trans (fx1461))
          have fx1602 : V1589 (q + 14) = some (.inl (cs 1, 120, .inl (g1383))) := (hq1593.2 (q + 14) _ (hr_14 hR) rfl).trans ((hq1452.2 (q + 14) _ (hr_14 hR) rfl).trans (fx1462))
          have fx1603 : V1589 (q + 2) = some (.inl (cs 1, 2, .inl (g10))) := (hq1593.2 (q + 2) _ (hr_2 hR) rfl).trans ((hq1452.2 (q + 2) _ (hr_2 hR) rfl).trans (fx1463))
          exact hq_athrow hx hb hnx hlocks hZ ⟨rfl, rfl, hP, ⟨z1454, z1455, z1456, z1595, z1596, ho1597, by assumption⟩, (hm_JH.of eV1 eV5 eV9 fx1601 fx1602 fx1603 (fun j hj => (congrFun ge1345 j).trans (hm_ub (by omega) hj)) (fun j hj => (congrFun ge1384 j).trans (hm_ub (by omega) hj)) rfl (hq_rg hI (hr_2 hR) eV9 0 (by decide)).2)⟩ dX13_readLine_305
      · have c1471 : ¬ (z1456).toInt = (3 : Int) := fun h9 => c1471 (hq_eqi.mpr h9)
        refine lv_aload_n hx hb dX13_readLine_256 rfl (lv_at hl 2 rfl) ?_
        refine lv_iconst (v := 1) hx hb dX13_readLine_257 (by decide) ?_
        have hl1613 : (1 : Int32).toInt = 1 := by decide
        refine hp_callq (hp_runV (As := [.int (1)]) (rest := []) hx hb hml hown hts (t_X13_wrong l D cs B G  V1448 n hP.1 q hR (mo) h_mo (1) ho1459  (by omega) (by omega) (by omega) (by omega) (by omega) (by omega) (by omega) (by omega) ) hZ ho1459 cv_X13_107 rfl rfl ⟨Nat.le_of_ble_eq_true rfl, Nat.le_of_ble_eq_true rfl⟩ rfl hl.1 rfl (Nat.le_of_ble_eq_true rfl) dX13_readLine_258 ⟨(Nat.le_of_ble_eq_true rfl), (Nat.le_of_ble_eq_true rfl)⟩) hZ (fun r1607 V1604 n1605 _ _ hw1606 hZ => ?_)
        obtain ⟨rfl, hq1608, ⟨z1610, z1611, ho1612⟩, hr1609⟩ := hw1606
        have hP := hP.trans hq1608 (by intro g h; simp_all)
        have b1614 := hq_rng z1610
        have b1615 := hq_rng z1611
        subst hr1609
        refine W.eq (g2 := F0 m 261 ls [.ref (q + 19)]) rfl ?_
        have fx1616 : V1604 (q + 10) = some (.inl (cs 1, 120, .inl (g1344))) := (hq1608.2 (q + 10) _ (hr_10 hR) rfl).trans ((hq1452.2 (q + 10) _ (hr_10 hR) rfl).trans (fx1461))
        have fx1617 : V1604 (q + 14) = some (.inl (cs 1, 120, .inl (g1383))) := (hq1608.2 (q + 14) _ (hr_14 hR) rfl).trans ((hq1452.2 (q + 14) _ (hr_14 hR) rfl).trans (fx1462))
        have fx1618 : V1604 (q + 2) = some (.inl (cs 1, 2, .inl (g10))) := (hq1608.2 (q + 2) _ (hr_2 hR) rfl).trans ((hq1452.2 (q + 2) _ (hr_2 hR) rfl).trans (fx1463))
        exact hq_athrow hx hb hnx hlocks hZ ⟨rfl, rfl, hP, ⟨z1454, z1455, z1456, z1610, z1611, ho1612, by assumption⟩, (hm_JH.of eV1 eV5 eV9 fx1616 fx1617 fx1618 (fun j hj => (congrFun ge1345 j).trans (hm_ub (by omega) hj)) (fun j hj => (congrFun ge1384 j).trans (hm_ub (by omega) hj)) rfl (hq_rg hI (hr_2 hR) eV9 0 (by decide)).2)⟩ dX13_readLine_261
    · have c1328 : (y1324).toInt = (60 : Int) := hq_eqi.mp c1328
      refine lv_aload_n hx hb dX13_readLine_102 rfl (lv_at hl 1 rfl) ?_
      refine lv_iconst (v := 4) hx hb dX13_readLine_103 (by decide) ?_
      have hl1628 : (4 : Int32).toInt = 4 := by decide
      refine hp_callq (hp_runV (As := [.int (4)]) (rest := []) hx hb hml hown hts (t_X13_wrong l D cs B G  V13 n hP.1 q hR (mo) h_mo (4) ho19  (by omega) (by omega) (by omega) (by omega) (by omega) (by omega) (by omega) (by omega) ) hZ ho19 cv_X13_107 rfl rfl ⟨Nat.le_of_ble_eq_true rfl, Nat.le_of_ble_eq_true rfl⟩ rfl hl.1 rfl (Nat.le_of_ble_eq_true rfl) dX13_readLine_104 ⟨(Nat.le_of_ble_eq_true rfl), (Nat.le_of_ble_eq_true rfl)⟩) hZ (fun r1622 V1619 n1620 _ _ hw1621 hZ => ?_)
      obtain ⟨rfl, hq1623, ⟨z1625, z1626, ho1627⟩, hr1624⟩ := hw1621
      have hP := hP.trans hq1623 (by intro g h; simp_all)
      have b1629 := hq_rng z1625
      have b1630 := hq_rng z1626
      subst hr1624
      refine W.eq (g2 := F0 m 107 ls [.ref (q + 19)]) rfl ?_
      have fx1631 : V1619 (q + 10) = some (.inl (cs 1, 120, .inl (g2))) := (hq1623.2 (q + 10) _ (hr_10 hR) rfl).trans ((hq17.2 (q + 10) _ (hr_10 hR) rfl).trans (eV1))
      have fx1632 : V1619 (q + 14) = some (.inl (cs 1, 120, .inl (g6))) := (hq1623.2 (q + 14) _ (hr_14 hR) rfl).trans ((hq17.2 (q + 14) _ (hr_14 hR) rfl).trans (eV5))
      have fx1633 : V1619 (q + 2) = some (.inl (cs 1, 2, .inl (g10))) := (hq1623.2 (q + 2) _ (hr_2 hR) rfl).trans (fx1323)
      exact hq_athrow hx hb hnx hlocks hZ ⟨rfl, rfl, hP, ⟨m_fr, m_bh, m_hd, z1625, z1626, ho1627, by assumption⟩, (hm_JH.of eV1 eV5 eV9 fx1631 fx1632 fx1633 (fun j hj => rfl) (fun j hj => rfl) rfl (hq_rg hI (hr_2 hR) eV9 0 (by decide)).2)⟩ dX13_readLine_107

set_option maxHeartbeats 4000000 in
set_option maxRecDepth 100000 in
theorem t_X13_readItem (l : Launch) (D : va_G) (cs : Nat → ClassId) (B : Nat) (G : hq_G) (V : hp_V) (n : Nat) (hI : hq_I cs G V) (q : Nat) (hR : hq_RT G q) (mo : Nat) (h_mo : G mo = some (24, 0, 0, 0)) {m_tp m_sz m_fr m_bh m_hd m_ft m_fa m_le m_fo m_as m_fd m_bc m_bg m_bs m_be m_b0 m_b1 m_cm m_hc : Int32} (ho_mo : V mo = some (.inr (13, hm_o q (m_tp) (m_sz) (m_fr) (m_bh) (m_hd) (m_ft) (m_fa) (m_le) (m_fo) (m_as) (m_fd) (m_bc) (m_bg) (m_bs) (m_be) (m_b0) (m_b1) (m_cm) (m_hc)))) (hi_mo0 : 0 ≤ m_tp.toInt ∧ m_tp.toInt ≤ 4000) (hi_mo1 : 0 ≤ m_sz.toInt ∧ m_sz.toInt ≤ 4000) (hi_mo2 : 0 ≤ m_le.toInt ∧ m_le.toInt ≤ 276) (hi_mo3 : 0 ≤ m_fo.toInt ∧ m_fo.toInt ≤ 4) (hi_mo4 : 0 ≤ m_as.toInt ∧ m_as.toInt ≤ 4000) (hi_mo5 : 0 ≤ m_fd.toInt ∧ m_fd.toInt ≤ 900) (hi_mo6 : 0 ≤ m_cm.toInt ∧ m_cm.toInt ≤ 2) (hi_mo7 : 0 ≤ m_hc.toInt ∧ m_hc.toInt ≤ 1) (hi_mo8 : hm_SC m_sz m_fr m_bh m_hd) : hq_M l yX13_readItem cX13_readItem 3 none ({ frames := 11, cells := 0, slots := 0, locals := 234 }) D cs B V n [.ref (mo)] (hq_QX D cs B (fun v V' n' => v = none ∧ n = n' ∧ hq_P cs G (fun g => g.1 == 1 || g.1 == 41 || g.1 == 50) V V' ∧ (∃ (m_fr1 : Int32) (m_bh1 : Int32) (m_hd1 : Int32) (m_ft1 : Int32) (m_fa1 : Int32), V' mo = some (.inr (13, hm_o q (m_tp) (m_sz) (m_fr1) (m_bh1) (m_hd1) (m_ft1) (m_fa1) (m_le) (m_fo) (m_as) (m_fd) (m_bc) (m_bg) (m_bs) (m_be) (m_b0) (m_b1) (m_cm) (m_hc))) ∧ (hm_SC m_sz m_fr1 m_bh1 m_hd1)) ∧ (hm_JH cs V V' q ∧ hm_JJ cs V V' q)) (fun x V' n' => x = q + 19 ∧ n = n' ∧ hq_P cs G (fun g => g.1 == 1 || g.1 == 41 || g.1 == 50) V V' ∧ (∃ (m_fr1 : Int32) (m_bh1 : Int32) (m_hd1 : Int32) (m_ft1 : Int32) (m_fa1 : Int32), V' mo = some (.inr (13, hm_o q (m_tp) (m_sz) (m_fr1) (m_bh1) (m_hd1) (m_ft1) (m_fa1) (m_le) (m_fo) (m_as) (m_fd) (m_bc) (m_bg) (m_bs) (m_be) (m_b0) (m_b1) (m_cm) (m_hc))) ∧ (hm_SC m_sz m_fr1 m_bh1 m_hd1)) ∧ hm_JH cs V V' q)) 0 0 := by
  refine hq_walk (R0 := RX13) (by decide) rfl ?_ (Nat.le_of_ble_eq_true rfl)
  intro p e s m below meth c ls hx hb hr hts hown hlocks hin hml hnx hZ hl
  have hP : hq_P cs G (fun g => g.1 == 1 || g.1 == 41 || g.1 == 50) V V := hq_P.rf hI
  have hl : lv_has ls 3 [(0, .ref (mo))] := hl
  have hb_m_tp := hq_rng m_tp
  have hb_m_sz := hq_rng m_sz
  have hb_m_fr := hq_rng m_fr
  have hb_m_bh := hq_rng m_bh
  have hb_m_hd := hq_rng m_hd
  have hb_m_ft := hq_rng m_ft
  have hb_m_fa := hq_rng m_fa
  have hb_m_le := hq_rng m_le
  have hb_m_fo := hq_rng m_fo
  have hb_m_as := hq_rng m_as
  have hb_m_fd := hq_rng m_fd
  have hb_m_bc := hq_rng m_bc
  have hb_m_bg := hq_rng m_bg
  have hb_m_bs := hq_rng m_bs
  have hb_m_be := hq_rng m_be
  have hb_m_b0 := hq_rng m_b0
  have hb_m_b1 := hq_rng m_b1
  have hb_m_cm := hq_rng m_cm
  have hb_m_hc := hq_rng m_hc
  refine lv_aload_n hx hb dX13_readItem_0 rfl (lv_at hl 0 rfl) ?_
  refine va_ldcS (tx := (hp_so.getD 1 ("", 0, "")).2.2) (q := cs (100 + 1)) hx hb hown (hZ.2.2.2.2.2.2.2.2.2.2 1 (by decide)) dX13_readItem_1 ?_
  refine hp_calli (hp_runV (As := [.ref (cs (100 + 1))]) (rest := []) hx hb hml hown hts (t_X13_is l D cs B G  V n hP.1 q hR (mo) h_mo 1 (by decide) ho_mo  (by omega) (by omega) (by omega) (by omega) (by omega) (by omega) (by omega) (by omega) (by assumption) ) hZ ho_mo cv_X13_103 rfl rfl ⟨Nat.le_of_ble_eq_true rfl, Nat.le_of_ble_eq_true rfl⟩ rfl hl.1 rfl (Nat.le_of_ble_eq_true rfl) dX13_readItem_3 ⟨(Nat.le_of_ble_eq_true rfl), (Nat.le_of_ble_eq_true rfl)⟩) hZ (fun r4 V1 n2 _ _ hw3 hZ => ?_)
  obtain ⟨rfl, hq5, ho7, hr6⟩ := hw3
  have hP := hP.trans hq5 (fun _ _ => rfl)
  have b8 := hq_rng r4
  refine lv_if_eq (tgt := 130) hx hb dX13_readItem_6 (by decide) (fun c9 => ?_) (fun c9 => ?_)
  · have c9 : (r4).toInt = (0 : Int) := hq_eqi.mp c9
    refine lv_aload_n hx hb dX13_readItem_130 rfl (lv_at hl 0 rfl) ?_
    refine va_ldcS (tx := (hp_so.getD 2 ("", 0, "")).2.2) (q := cs (100 + 2)) hx hb hown (hZ.2.2.2.2.2.2.2.2.2.2 2 (by decide)) dX13_readItem_131 ?_
    refine hp_calli (hp_runV (As := [.ref (cs (100 + 2))]) (rest := []) hx hb hml hown hts (t_X13_is l D cs B G  V1 n hP.1 q hR (mo) h_mo 2 (by decide) ho7  (by omega) (by omega) (by omega) (by omega) (by omega) (by omega) (by omega) (by omega) (by assumption) ) hZ ho7 cv_X13_103 rfl rfl ⟨Nat.le_of_ble_eq_true rfl, Nat.le_of_ble_eq_true rfl⟩ rfl hl.1 rfl (Nat.le_of_ble_eq_true rfl) dX13_readItem_133 ⟨(Nat.le_of_ble_eq_true rfl), (Nat.le_of_ble_eq_true rfl)⟩) hZ (fun r13 V10 n11 _ _ hw12 hZ => ?_)
    obtain ⟨rfl, hq14, ho16, hr15⟩ := hw12
    have hP := hP.trans hq14 (fun _ _ => rfl)
    have b17 := hq_rng r13
    refine lv_if_eq (tgt := 276) hx hb dX13_readItem_136 (by decide) (fun c18 => ?_) (fun c18 => ?_)
    · have c18 : (r13).toInt = (0 : Int) := hq_eqi.mp c18
      refine lv_aload_n hx hb dX13_readItem_276 rfl (lv_at hl 0 rfl) ?_
      refine hq_callx (hq_runV (As := []) (rest := []) hx hb hml hown hts (t_X13_readLine l D cs B G  V10 n hP.1 q hR (mo) h_mo ho16  (by omega) (by omega) (by omega) (by omega) (by omega) (by omega) (by omega) (by omega) (by assumption) ) hZ ho16 cv_X13_179 rfl rfl ⟨Nat.le_of_ble_eq_true rfl, Nat.le_of_ble_eq_true rfl⟩ rfl hl.1 rfl (Nat.le_of_ble_eq_true rfl) dX13_readItem_277 ⟨(Nat.le_of_ble_eq_true rfl), (Nat.le_of_ble_eq_true rfl)⟩) hZ hnx hlocks (by rintro x9 V9 n9 ⟨rfl, rfl, hq9, ⟨z25x, z26x, z27x, z28x, z29x, hox0, hix00⟩, hxp⟩; have hbxz25 := hq_rng z25x; have hbxz26 := hq_rng z26x; have hbxz27 := hq_rng z27x; have hbxz28 := hq_rng z28x; have hbxz29 := hq_rng z29x; exact ⟨rfl, rfl, hP.trans hq9 (by intro g h; simp_all), ⟨z25x, z26x, z27x, z28x, z29x, hox0, by assumption⟩, (fun h0 => hxp (h0.keep hR (fun y9 t9 hy9 hg9 => (hq14.2 y9 _ hy9 rfl).trans (hq5.2 y9 _ hy9 rfl))))⟩) (fun v9 V19 n20 _ _ hw21 hZ => ?_)
      obtain ⟨rfl, rfl, hq23, ⟨z25, z26, z27, z28, z29, ho30, hi31⟩, hr24⟩ := hw21
      refine W.eq (g2 := F0 m 280 ls []) rfl ?_
      have hP := hP.trans hq23 (by intro g h; simp_all)
      have b32 := hq_rng z25
      have b33 := hq_rng z26
      have b34 := hq_rng z27
      have b35 := hq_rng z28
      have b36 := hq_rng z29
      exact hq_vret hx hb hr hlocks hZ ⟨rfl, rfl, hP, ⟨z25, z26, z27, z28, z29, ho30, by assumption⟩, ⟨fun h0 => hr24.1 (h0.keep hR (fun y9 t9 hy9 hg9 => (hq14.2 y9 _ hy9 rfl).trans (hq5.2 y9 _ hy9 rfl))), fun h0 => hr24.2 (h0.keep hR (fun y9 t9 hy9 hg9 => (hq14.2 y9 _ hy9 rfl).trans (hq5.2 y9 _ hy9 rfl)))⟩⟩ dX13_readItem_280
    · have c18 : ¬ (r13).toInt = (0 : Int) := fun h9 => c18 (hq_eqi.mpr h9)
      refine lv_aload_n hx hb dX13_readItem_139 rfl (lv_at hl 0 rfl) ?_
      refine hp_get (v := .ref (q + 1)) hx hb hts hown hZ ho16 fl_X13_7 rfl dX13_readItem_140 ?_
      refine lv_iconst (v := 1) hx hb dX13_readItem_143 (by decide) ?_
      obtain ⟨hN39, g38, eV37, hf40⟩ := hq_o21 hP.1 (hr_1 hR)
      refine hp_iald hx hb hZ eV37 (by unfold vp_in; decide) dX13_readItem_144 ?_
      refine lv_topi (fun y41 ey42 => ?_)
      have b44 : (y41).toInt = ((g38) (1 : Int32).toNatClampNeg).toInt := by rw [ey42]
      have b43 : hq_ir (hq_lo 9) (hq_hi 9) y41 := by rw [ey42]; exact hf40 _ (by decide)
      have b43 : 0 ≤ (y41).toInt ∧ (y41).toInt ≤ 30 := b43
      refine lv_bipush (v := 30) hx hb dX13_readItem_145 (by decide) ?_
      refine lv_icmp_ne (tgt := 156) hx hb dX13_readItem_147 (by decide) (fun c45 => ?_) (fun c45 => ?_)
      · have c45 : ¬ (y41).toInt = (30 : Int) := fun h9 => c45 (hq_eqi.mpr h9)
        refine lv_aload_n hx hb dX13_readItem_156 rfl (lv_at hl 0 rfl) ?_
        refine hp_callv (hp_runV (As := []) (rest := []) hx hb hml hown hts (t_X13_scan l D cs B G  V10 n hP.1 q hR (mo) h_mo ho16  (by omega) (by omega) (by omega) (by omega) (by omega) (by omega) (by omega) (by omega) (hm_SC.s0 (by assumption)) (hm_SC.s1 (by assumption) (by first | omega | (have h8 := hm_Is.hd (by assumption) (by omega); omega)))) hZ ho16 cv_X13_111 rfl rfl ⟨Nat.le_of_ble_eq_true rfl, Nat.le_of_ble_eq_true rfl⟩ rfl hl.1 rfl (Nat.le_of_ble_eq_true rfl) dX13_readItem_157 ⟨(Nat.le_of_ble_eq_true rfl), (Nat.le_of_ble_eq_true rfl)⟩) hZ (fun V46 n47 _ _ hw48 hZ => ?_)
        obtain ⟨rfl, hq50, ⟨z52, z53, z54, ho55, hi56⟩⟩ := hw48
        have hP := hP.trans hq50 (by intro g h; simp_all)
        have b57 := hq_rng z52
        have b58 := hq_rng z53
        have b59 := hq_rng z54
        refine lv_aload_n hx hb dX13_readItem_160 rfl (lv_at hl 0 rfl) ?_
        refine hq_callx (hq_runV (As := []) (rest := []) hx hb hml hown hts (t_X13_needName l D cs B G  V46 n hP.1 q hR (mo) h_mo ho55  (by omega) (by omega) (by omega) (by omega) (by omega) (by omega) (by omega) (by omega) (by assumption) ) hZ ho55 cv_X13_160 rfl rfl ⟨Nat.le_of_ble_eq_true rfl, Nat.le_of_ble_eq_true rfl⟩ rfl hl.1 rfl (Nat.le_of_ble_eq_true rfl) dX13_readItem_161 ⟨(Nat.le_of_ble_eq_true rfl), (Nat.le_of_ble_eq_true rfl)⟩) hZ hnx hlocks (by rintro x9 V9 n9 ⟨rfl, rfl, hq9, ⟨z66x, z67x, hox0⟩⟩; have hbxz66 := hq_rng z66x; have hbxz67 := hq_rng z67x; exact ⟨rfl, rfl, hP.trans hq9 (by intro g h; simp_all), ⟨z52, z53, z54, z66x, z67x, hox0, by assumption⟩, (hm_E.jh (fun y9 t9 hy9 hg9 => (hq50.2 y9 _ hy9 (by simp [hg9])).trans ((hq14.2 y9 _ hy9 rfl).trans (hq5.2 y9 _ hy9 rfl))) hR).keep hR (fun x t hx hg => hq9.2 x t hx (by simp [hg]))⟩) (fun v9 V60 n61 _ _ hw62 hZ => ?_)
        obtain ⟨rfl, rfl, hq64, ⟨z66, z67, ho68⟩, hr65⟩ := hw62
        refine W.eq (g2 := F0 m 164 ls []) rfl ?_
        have hP := hP.trans hq64 (by intro g h; simp_all)
        have b69 := hq_rng z66
        have b70 := hq_rng z67
        have ha1 := hm_SC.a1 (by assumption : hm_SC m_sz z52 z53 z54) (by omega)
        refine lv_aload_n hx hb dX13_readItem_164 rfl (lv_at hl 0 rfl) ?_
        refine hp_calli (hp_runV (As := []) (rest := []) hx hb hml hown hts (t_X13_verbAtHand l D cs B G  V60 n hP.1 q hR (mo) h_mo ho68  (by omega) (by omega) (by omega) (by omega) (by omega) (by omega) (by omega) (by omega) (by assumption) (by omega)) hZ ho68 cv_X13_166 rfl rfl ⟨Nat.le_of_ble_eq_true rfl, Nat.le_of_ble_eq_true rfl⟩ rfl hl.1 rfl (Nat.le_of_ble_eq_true rfl) dX13_readItem_165 ⟨(Nat.le_of_ble_eq_true rfl), (Nat.le_of_ble_eq_true rfl)⟩) hZ (fun r74 V71 n72 _ _ hw73 hZ => ?_)
        obtain ⟨rfl, hq75, ho77, hr76⟩ := hw73
        have hP := hP.trans hq75 (fun _ _ => rfl)
        have b78 := hq_rng r74
        refine lv_iconst (v := -1) hx hb dX13_readItem_168 (by decide) ?_
        refine lv_icmp_eq (tgt := 178) hx hb dX13_readItem_169 (by decide) (fun c79 => ?_) (fun c79 => ?_)
        · have c79 : (r74).toInt = (-1 : Int) := hq_eqi.mp c79
          refine lv_bipush (v := 30) hx hb dX13_readItem_178 (by decide) ?_
          refine lv_aload_n hx hb dX13_readItem_180 rfl (lv_at hl 0 rfl) ?_
          refine hp_get (v := .ref (q + 1)) hx hb hts hown hZ ho77 fl_X13_7 rfl dX13_readItem_181 ?_
          refine lv_iconst (v := 1) hx hb dX13_readItem_184 (by decide) ?_
          have fx80 : V71 (q + 1) = some (.inl (cs 1, 2, .inl (g38))) := (hq75.2 (q + 1) _ (hr_1 hR) rfl).trans ((hq64.2 (q + 1) _ (hr_1 hR) rfl).trans ((hq50.2 (q + 1) _ (hr_1 hR) rfl).trans (eV37)))
          refine hp_iald hx hb hZ fx80 (by unfold vp_in; decide) dX13_readItem_185 ?_
          refine lv_topi (fun y81 ey82 => ?_)
          have b84 : (y81).toInt = ((g38) (1 : Int32).toNatClampNeg).toInt := by rw [ey82]
          have b83 : hq_ir (hq_lo 9) (hq_hi 9) y81 := by rw [ey82]; exact hf40 _ (by decide)
          have b83 : 0 ≤ (y81).toInt ∧ (y81).toInt ≤ 30 := b83
          refine lv_iadd hx hb dX13_readItem_186 ?_
          refine lv_topi (fun y85 ey86 => ?_)
          obtain ⟨k87, hk88, b89, b90⟩ := hq_add (30) (y81)
          rw [← ey86] at hk88 b89 b90
          have hk88 : (y85).toInt = (30 : Int) + (y81).toInt + k87 * 4294967296 := hk88
          obtain rfl : k87 = 0 := by omega
          refine lv_istore_n (lv' := [(1, .int (y85)), (0, .ref (mo))]) hx hb dX13_readItem_187 rfl hl (by decide) rfl (fun ls hl => ?_)
          refine lv_aload_n hx hb dX13_readItem_188 rfl (lv_at hl 1 rfl) ?_
          refine hp_get (v := .ref (q + 8)) hx hb hts hown hZ ho77 fl_X13_13 rfl dX13_readItem_189 ?_
          refine lv_iload_n hx hb dX13_readItem_192 rfl (lv_at hl 0 rfl) ?_
          refine lv_aload_n hx hb dX13_readItem_193 rfl (lv_at hl 1 rfl) ?_
          refine hp_get (v := .int (z53)) hx hb hts hown hZ ho77 fl_X13_76 rfl dX13_readItem_194 ?_
          refine lv_aload_n hx hb dX13_readItem_197 rfl (lv_at hl 1 rfl) ?_
          refine hp_get (v := .int (z52)) hx hb hts hown hZ ho77 fl_X13_60 rfl dX13_readItem_198 ?_
          refine lv_isub hx hb dX13_readItem_201 ?_
          refine lv_topi (fun y91 ey92 => ?_)
          obtain ⟨k93, hk94, b95, b96⟩ := hq_sub (z53) (z52)
          rw [← ey92] at hk94 b95 b96
          have hk94 : (y91).toInt = (z53).toInt - (z52).toInt + k93 * 4294967296 := hk94
          obtain rfl : k93 = 0 := by omega
          obtain ⟨hN99, g98, eV97, hf100⟩ := hq_o21 hP.1 (hr_8 hR)
          refine hp_iast hx hb hZ eV97 (hq_in (by omega) (by omega)) dX13_readItem_202 (fun V101 _ _ e102 o103 hZ => ?_)
          have e102 : V101 (q + 8) = some (.inl (cs 1, 60, .inl (upd (g98) ((y85 : Int32).toNatClampNeg) (y91)))) := e102
          have hP := hP.put (hr_8 hR) e102 o103 (hq_c21 (by omega) (hq_upd hf100 (show 0 ≤ _ ∧ _ ≤ 12 by constructor <;> omega))) rfl
          obtain ⟨g104, ge105⟩ : ∃ g9 : Nat → Int32, g9 = upd (g98) ((y85 : Int32).toNatClampNeg) (y91) := ⟨_, rfl⟩
          have fx107 : V101 (q + 8) = some (.inl (cs 1, 60, .inl (g104))) := by rw [ge105]; exact e102
          have hf106 := hq_rg hP.1 (hr_8 hR) fx107
          have b108 : (g104 (y85 : Int32).toNatClampNeg).toInt = (y91 : Int32).toInt := congrArg Int32.toInt ((congrFun ge105 _).trans hm_ue)
          refine lv_iconst (v := 0) hx hb dX13_readItem_203 (by decide) ?_
          refine lv_istore_n (lv' := [(2, .int (0)), (1, .int (y85)), (0, .ref (mo))]) hx hb dX13_readItem_204 rfl hl (by decide) rfl (fun ls hl => ?_)
          have hl109 : (0 : Int32).toInt = 0 := by decide
          have fx111 : V101 (q + 1) = some (.inl (cs 1, 2, .inl (g38))) := (o103 (q + 1) (hq_ne q 1 8 (by decide))).trans (fx80)
          have fx113 : V101 (mo) = some (.inr (13, hm_o q (m_tp) (m_sz) (z52) (z53) (z54) (z66) (z67) (m_le) (m_fo) (m_as) (m_fd) (m_bc) (m_bg) (m_bs) (m_be) (m_b0) (m_b1) (m_cm) (m_hc))) := (o103 (mo) (hq_tne h_mo (hr_8 hR) (by simp))).trans (ho77)
          suffices lp205 : ∀ (k9 : Nat) (V9 : hp_V) (H9 : Heap) (locs9 : List Loc) (ls : Array Slot) (i : Int32), (200 - i.toInt).toNat = k9 → hp_Z D cs B s V9 H9 n locs9 → hq_P cs G (fun g => g.1 == 1 || g.1 == 41 || g.1 == 50) V V9 → V9 (q + 8) = some (.inl (cs 1, 60, .inl (g104))) → V9 (q + 1) = some (.inl (cs 1, 2, .inl (g38))) → V9 (mo) = some (.inr (13, hm_o q (m_tp) (m_sz) (z52) (z53) (z54) (z66) (z67) (m_le) (m_fo) (m_as) (m_fd) (m_bc) (m_bg) (m_bs) (m_be) (m_b0) (m_b1) (m_cm) (m_hc))) → 0 ≤ i.toInt → i.toInt ≤ 100 → hm_E G V V9 → lv_has ls 3 [(2, .int (i)), (1, .int (y85)), (0, .ref (mo))] → W p l e ({ frames := 11, cells := 0, slots := 0, locals := 234 }) s m ([.ref (mo)] : List Value).toArray below meth c H9 locs9 0 0 (hq_MQ below (hq_QX D cs B (fun v V' n' => v = none ∧ n = n' ∧ hq_P cs G (fun g => g.1 == 1 || g.1 == 41 || g.1 == 50) V V' ∧ (∃ (m_fr1 : Int32) (m_bh1 : Int32) (m_hd1 : Int32) (m_ft1 : Int32) (m_fa1 : Int32), V' mo = some (.inr (13, hm_o q (m_tp) (m_sz) (m_fr1) (m_bh1) (m_hd1) (m_ft1) (m_fa1) (m_le) (m_fo) (m_as) (m_fd) (m_bc) (m_bg) (m_bs) (m_be) (m_b0) (m_b1) (m_cm) (m_hc))) ∧ (hm_SC m_sz m_fr1 m_bh1 m_hd1)) ∧ (hm_JH cs V V' q ∧ hm_JJ cs V V' q)) (fun x V' n' => x = q + 19 ∧ n = n' ∧ hq_P cs G (fun g => g.1 == 1 || g.1 == 41 || g.1 == 50) V V' ∧ (∃ (m_fr1 : Int32) (m_bh1 : Int32) (m_hd1 : Int32) (m_ft1 : Int32) (m_fa1 : Int32), V' mo = some (.inr (13, hm_o q (m_tp) (m_sz) (m_fr1) (m_bh1) (m_hd1) (m_ft1) (m_fa1) (m_le) (m_fo) (m_as) (m_fd) (m_bc) (m_bg) (m_bs) (m_be) (m_b0) (m_b1) (m_cm) (m_hc))) ∧ (hm_SC m_sz m_fr1 m_bh1 m_hd1)) ∧ hm_JH cs V V' q)) ([.ref (mo)] : List Value).toArray s 0 0 (hp_F B)) (F0 m 205 ls []) from lp205 _ _ _ _ ls (0) rfl hZ hP fx107 fx111 fx113 (by omega) (by omega) (fun y9 t9 hy9 hg9 => (o103 y9 (hq_gne hy9 (hr_8 hR) hg9 (by decide))).trans ((hq75.2 y9 _ hy9 rfl).trans ((hq64.2 y9 _ hy9 (by simp [hg9])).trans ((hq50.2 y9 _ hy9 (by simp [hg9])).trans ((hq14.2 y9 _ hy9 rfl).trans (hq5.2 y9 _ hy9 rfl)))))) (lv_sub hl [0, 1, 2] rfl)
          intro k9
          induction k9 using Nat.strongRecOn with
          | _ k9 ih205 =>
            intro V9 H9 locs9 ls i  hk205 hZ hP ho110 ho112 ho114 hv115 hv116 he205 hl
            have hb_i := hq_rng i
            have hP_205 := hP
            have hf117 := hq_rg hP.1 (hr_8 hR) ho110
            have hf118 := hq_rg hP.1 (hr_1 hR) ho112
            refine lv_iload_n hx hb dX13_readItem_205 rfl (lv_at hl 0 rfl) ?_
            refine lv_aload_n hx hb dX13_readItem_206 rfl (lv_at hl 2 rfl) ?_
            refine hp_get (v := .ref (q + 8)) hx hb hts hown hZ ho114 fl_X13_13 rfl dX13_readItem_207 ?_
            refine lv_iload_n hx hb dX13_readItem_210 rfl (lv_at hl 1 rfl) ?_
            refine hp_iald hx hb hZ ho110 (hq_in (by omega) (by omega)) dX13_readItem_211 ?_
            refine lv_topi (fun y119 ey120 => ?_)
            have b122 : (y119).toInt = ((g104) (y85 : Int32).toNatClampNeg).toInt := by rw [ey120]
            have b121 : hq_ir (hq_lo 2) (hq_hi 2) y119 := by rw [ey120]; exact hf117 _ (hq_ix (by omega) (by omega))
            have b121 : 0 ≤ (y119).toInt ∧ (y119).toInt ≤ 12 := b121
            refine lv_icmp_ge (tgt := 243) hx hb dX13_readItem_212 (by decide) (fun c123 => ?_) (fun c123 => ?_)
            · have c123 : (y119).toInt ≤ (i).toInt := hq_lei.mp c123
              refine lv_aload_n hx hb dX13_readItem_243 rfl (lv_at hl 2 rfl) ?_
              refine hp_callv (hp_runV (As := []) (rest := []) hx hb hml hown hts (t_X13_scan l D cs B G  V9 n hP.1 q hR (mo) h_mo ho114  (by omega) (by omega) (by omega) (by omega) (by omega) (by omega) (by omega) (by omega) (hm_SC.s0 (by assumption)) (hm_SC.s1 (by assumption) (by first | omega | (have h8 := hm_Is.hd (by assumption) (by omega); omega)))) hZ ho114 cv_X13_111 rfl rfl ⟨Nat.le_of_ble_eq_true rfl, Nat.le_of_ble_eq_true rfl⟩ rfl hl.1 rfl (Nat.le_of_ble_eq_true rfl) dX13_readItem_244 ⟨(Nat.le_of_ble_eq_true rfl), (Nat.le_of_ble_eq_true rfl)⟩) hZ (fun V124 n125 _ _ hw126 hZ => ?_)
              obtain ⟨rfl, hq128, ⟨z130, z131, z132, ho133, hi134⟩⟩ := hw126
              have hP := hP.trans hq128 (by intro g h; simp_all)
              have b135 := hq_rng z130
              have b136 := hq_rng z131
              have b137 := hq_rng z132
              refine lv_aload_n hx hb dX13_readItem_247 rfl (lv_at hl 2 rfl) ?_
              refine va_ldcS (tx := (hp_so.getD 3 ("", 0, "")).2.2) (q := cs (100 + 3)) hx hb hown (hZ.2.2.2.2.2.2.2.2.2.2 3 (by decide)) dX13_readItem_248 ?_
              refine hq_callx (hq_runV (As := [.ref (cs (100 + 3))]) (rest := []) hx hb hml hown hts (t_X13_need l D cs B G  V124 n hP.1 q hR (mo) h_mo 3 (by decide) ho133  (by omega) (by omega) (by omega) (by omega) (by omega) (by omega) (by omega) (by omega) (by assumption) ) hZ ho133 cv_X13_172 rfl rfl ⟨Nat.le_of_ble_eq_true rfl, Nat.le_of_ble_eq_true rfl⟩ rfl hl.1 rfl (Nat.le_of_ble_eq_true rfl) dX13_readItem_250 ⟨(Nat.le_of_ble_eq_true rfl), (Nat.le_of_ble_eq_true rfl)⟩) hZ hnx hlocks (by rintro x9 V9 n9 ⟨rfl, rfl, hq9, ⟨z144x, z145x, z146x, z147x, z148x, hox0, hix00⟩⟩; have hbxz144 := hq_rng z144x; have hbxz145 := hq_rng z145x; have hbxz146 := hq_rng z146x; have hbxz147 := hq_rng z147x; have hbxz148 := hq_rng z148x; exact ⟨rfl, rfl, hP.trans hq9 (by intro g h; simp_all), ⟨z144x, z145x, z146x, z147x, z148x, hox0, by assumption⟩, (hm_E.jh (fun y9 t9 hy9 hg9 => (hq128.2 y9 _ hy9 (by simp [hg9])).trans (he205 y9 _ hy9 hg9)) hR).keep hR (fun x t hx hg => hq9.2 x t hx (by simp [hg]))⟩) (fun v9 V138 n139 _ _ hw140 hZ => ?_)
              obtain ⟨rfl, rfl, hq142, ⟨z144, z145, z146, z147, z148, ho149, hi150⟩⟩ := hw140
              refine W.eq (g2 := F0 m 253 ls []) rfl ?_
              have hP := hP.trans hq142 (by intro g h; simp_all)
              have b151 := hq_rng z144
              have b152 := hq_rng z145
              have b153 := hq_rng z146
              have b154 := hq_rng z147
              have b155 := hq_rng z148
              refine lv_aload_n hx hb dX13_readItem_253 rfl (lv_at hl 2 rfl) ?_
              refine hp_get (v := .ref (q + 9)) hx hb hts hown hZ ho149 fl_X13_16 rfl dX13_readItem_254 ?_
              refine lv_iload_n hx hb dX13_readItem_257 rfl (lv_at hl 1 rfl) ?_
              refine lv_aload_n hx hb dX13_readItem_258 rfl (lv_at hl 2 rfl) ?_
              refine hq_callx (hq_runV (As := []) (rest := [.int (y85), .ref (q + 9)]) hx hb hml hown hts (t_X13_takeClass l D cs B G  V138 n hP.1 q hR (mo) h_mo ho149  (by omega) (by omega) (by omega) (by omega) (by omega) (by omega) (by omega) (by omega) (by assumption) ) hZ ho149 cv_X13_176 rfl rfl ⟨Nat.le_of_ble_eq_true rfl, Nat.le_of_ble_eq_true rfl⟩ rfl hl.1 rfl (Nat.le_of_ble_eq_true rfl) dX13_readItem_259 ⟨(Nat.le_of_ble_eq_true rfl), (Nat.le_of_ble_eq_true rfl)⟩) hZ hnx hlocks (by rintro x9 V9 n9 ⟨rfl, rfl, hq9, ⟨z162x, z163x, z164x, z165x, z166x, hox0, hix00⟩⟩; have hbxz162 := hq_rng z162x; have hbxz163 := hq_rng z163x; have hbxz164 := hq_rng z164x; have hbxz165 := hq_rng z165x; have hbxz166 := hq_rng z166x; exact ⟨rfl, rfl, hP.trans hq9 (by intro g h; simp_all), ⟨z162x, z163x, z164x, z165x, z166x, hox0, by assumption⟩, (hm_E.jh (fun y9 t9 hy9 hg9 => (hq142.2 y9 _ hy9 (by simp [hg9])).trans ((hq128.2 y9 _ hy9 (by simp [hg9])).trans (he205 y9 _ hy9 hg9))) hR).keep hR (fun x t hx hg => hq9.2 x t hx (by simp [hg]))⟩) (fun v9 V156 n157 _ _ hw158 hZ => ?_)
              obtain ⟨r159, rfl, rfl, hq160, ⟨z162, z163, z164, z165, z166, ho167, hi168⟩, hr161⟩ := hw158
              refine W.eq (g2 := F0 m 262 ls [.int (r159), .int (y85), .ref (q + 9)]) rfl ?_
              have hP := hP.trans hq160 (by intro g h; simp_all)
              have b169 := hq_rng z162
              have b170 := hq_rng z163
              have b171 := hq_rng z164
              have b172 := hq_rng z165
              have b173 := hq_rng z166
              have b174 := hq_rng r159
              obtain ⟨hN177, g176, eV175, hf178⟩ := hq_o21 hP.1 (hr_9 hR)
              refine hp_iast hx hb hZ eV175 (hq_in (by omega) (by omega)) dX13_readItem_262 (fun V179 _ _ e180 o181 hZ => ?_)
              have e180 : V179 (q + 9) = some (.inl (cs 1, 60, .inl (upd (g176) ((y85 : Int32).toNatClampNeg) (r159)))) := e180
              have hP := hP.put (hr_9 hR) e180 o181 (hq_c21 (by omega) (hq_upd hf178 (hq_rng _))) rfl
              refine lv_aload_n hx hb dX13_readItem_263 rfl (lv_at hl 2 rfl) ?_
              have fx182 : V179 (mo) = some (.inr (13, hm_o q (m_tp) (m_sz) (z162) (z163) (z164) (z165) (z166) (m_le) (m_fo) (m_as) (m_fd) (m_bc) (m_bg) (m_bs) (m_be) (m_b0) (m_b1) (m_cm) (m_hc))) := (o181 (mo) (hq_tne h_mo (hr_9 hR) (by simp))).trans (ho167)
              refine hp_get (v := .ref (q + 1)) hx hb hts hown hZ fx182 fl_X13_7 rfl dX13_readItem_264 ?_
              refine lv_iconst (v := 1) hx hb dX13_readItem_267 (by decide) ?_
              refine lv_dup2_11 hx hb dX13_readItem_268 rfl rfl ?_
              have fx183 : V179 (q + 1) = some (.inl (cs 1, 2, .inl (g38))) := (o181 (q + 1) (hq_ne q 1 9 (by decide))).trans ((hq160.2 (q + 1) _ (hr_1 hR) rfl).trans ((hq142.2 (q + 1) _ (hr_1 hR) rfl).trans ((hq128.2 (q + 1) _ (hr_1 hR) rfl).trans (ho112))))
              refine hp_iald hx hb hZ fx183 (by unfold vp_in; decide) dX13_readItem_269 ?_
              refine lv_topi (fun y184 ey185 => ?_)
              have b187 : (y184).toInt = ((g38) (1 : Int32).toNatClampNeg).toInt := by rw [ey185]
              have b186 : hq_ir (hq_lo 9) (hq_hi 9) y184 := by rw [ey185]; exact hf118 _ (by decide)
              have b186 : 0 ≤ (y184).toInt ∧ (y184).toInt ≤ 30 := b186
              refine lv_iconst (v := 1) hx hb dX13_readItem_270 (by decide) ?_
              refine lv_iadd hx hb dX13_readItem_271 ?_
              refine lv_topi (fun y188 ey189 => ?_)
              obtain ⟨k190, hk191, b192, b193⟩ := hq_add (y184) (1)
              rw [← ey189] at hk191 b192 b193
              have hk191 : (y188).toInt = (y184).toInt + (1 : Int) + k190 * 4294967296 := hk191
              obtain rfl : k190 = 0 := by omega
              refine hp_iast hx hb hZ fx183 (by unfold vp_in; decide) dX13_readItem_272 (fun V194 _ _ e195 o196 hZ => ?_)
              have e195 : V194 (q + 1) = some (.inl (cs 1, 2, .inl (upd (g38) ((1 : Int32).toNatClampNeg) (y188)))) := e195
              have hP := hP.put (hr_1 hR) e195 o196 (hq_c21 (by omega) (hq_upd hf118 (show 0 ≤ _ ∧ _ ≤ 30 by constructor <;> omega))) rfl
              refine lv_goto (tgt := 280) hx hb dX13_readItem_273 (by decide) ?_
              have fx197 : V194 (mo) = some (.inr (13, hm_o q (m_tp) (m_sz) (z162) (z163) (z164) (z165) (z166) (m_le) (m_fo) (m_as) (m_fd) (m_bc) (m_bg) (m_bs) (m_be) (m_b0) (m_b1) (m_cm) (m_hc))) := (o196 (mo) (hq_tne h_mo (hr_1 hR) (by simp))).trans (fx182)
              exact hq_vret hx hb hr hlocks hZ ⟨rfl, rfl, hP, ⟨z162, z163, z164, z165, z166, fx197, by assumption⟩, ⟨hm_E.jh (fun y9 t9 hy9 hg9 => (o196 y9 (hq_gne hy9 (hr_1 hR) hg9 (by decide))).trans ((o181 y9 (hq_gne hy9 (hr_9 hR) hg9 (by decide))).trans ((hq160.2 y9 _ hy9 (by simp [hg9])).trans ((hq142.2 y9 _ hy9 (by simp [hg9])).trans ((hq128.2 y9 _ hy9 (by simp [hg9])).trans (he205 y9 _ hy9 hg9)))))) hR, hm_E.jj (fun y9 t9 hy9 hg9 => (o196 y9 (hq_gne hy9 (hr_1 hR) hg9 (by decide))).trans ((o181 y9 (hq_gne hy9 (hr_9 hR) hg9 (by decide))).trans ((hq160.2 y9 _ hy9 (by simp [hg9])).trans ((hq142.2 y9 _ hy9 (by simp [hg9])).trans ((hq128.2 y9 _ hy9 (by simp [hg9])).trans (he205 y9 _ hy9 hg9)))))) hR⟩⟩ dX13_readItem_280
            · have c123 : ¬ (y119).toInt ≤ (i).toInt := fun h9 => c123 (hq_lei.mpr h9)
              refine lv_aload_n hx hb dX13_readItem_215 rfl (lv_at hl 2 rfl) ?_
              refine hp_get (v := .ref (q + 4)) hx hb hts hown hZ ho114 fl_X13_19 rfl dX13_readItem_216 ?_
              refine lv_bipush (v := 12) hx hb dX13_readItem_219 (by decide) ?_
              refine lv_iload_n hx hb dX13_readItem_221 rfl (lv_at hl 1 rfl) ?_
              refine lv_imul hx hb dX13_readItem_222 ?_
              refine lv_topi (fun y198 ey199 => ?_)
              obtain ⟨k200, hk201, b202, b203⟩ := hq_mul (12) (y85)
              rw [← ey199] at hk201 b202 b203
              have hk201 : (y198).toInt = (12 : Int) * (y85).toInt + k200 * 4294967296 := hk201
              obtain rfl : k200 = 0 := by omega
              refine lv_iload_n hx hb dX13_readItem_223 rfl (lv_at hl 0 rfl) ?_
              refine lv_iadd hx hb dX13_readItem_224 ?_
              refine lv_topi (fun y204 ey205 => ?_)
              obtain ⟨k206, hk207, b208, b209⟩ := hq_add (y198) (i)
              rw [← ey205] at hk207 b208 b209
              have hk207 : (y204).toInt = (y198).toInt + (i).toInt + k206 * 4294967296 := hk207
              obtain rfl : k206 = 0 := by omega
              refine lv_aload_n hx hb dX13_readItem_225 rfl (lv_at hl 2 rfl) ?_
              refine hp_get (v := .ref (q + 20)) hx hb hts hown hZ ho114 fl_X13_73 rfl dX13_readItem_226 ?_
              refine lv_aload_n hx hb dX13_readItem_229 rfl (lv_at hl 2 rfl) ?_
              refine hp_get (v := .int (z52)) hx hb hts hown hZ ho114 fl_X13_60 rfl dX13_readItem_230 ?_
              refine lv_iload_n hx hb dX13_readItem_233 rfl (lv_at hl 0 rfl) ?_
              refine lv_iadd hx hb dX13_readItem_234 ?_
              refine lv_topi (fun y210 ey211 => ?_)
              obtain ⟨k212, hk213, b214, b215⟩ := hq_add (z52) (i)
              rw [← ey211] at hk213 b214 b215
              have hk213 : (y210).toInt = (z52).toInt + (i).toInt + k212 * 4294967296 := hk213
              obtain rfl : k212 = 0 := by omega
              obtain ⟨hN218, g217, eV216⟩ := hq_o20 hP.1 (hr_20 hR)
              refine hp_bald hx hb hZ eV216 (hq_in (by omega) (by omega)) dX13_readItem_235 ?_
              refine lv_topi (fun y220 ey221 => ?_)
              have b223 : (y220).toInt = ((g217) (y210 : Int32).toNatClampNeg).toInt := by rw [ey221]
              have b222 := hq_rng y220
              obtain ⟨hN226, g225, eV224⟩ := hq_o20 hP.1 (hr_4 hR)
              refine hp_bast hx hb hZ eV224 (hq_in (by omega) (by omega)) dX13_readItem_236 (fun V228 _ _ e229 o230 hZ => ?_)
              have e229 : V228 (q + 4) = some (.inl (cs 0, 720, .inl (upd (g225) ((y204 : Int32).toNatClampNeg) ((y220 : Int32).toInt8.toInt32)))) := e229
              have hP := hP.put (hr_4 hR) e229 o230 (hq_c20 (by omega)) rfl
              obtain ⟨y231, ey232⟩ : ∃ y : Int32, y = i + (1) := ⟨_, rfl⟩
              obtain ⟨k233, hk234, b235, b236⟩ := hq_add (i) (1)
              rw [← ey232] at hk234 b235 b236
              have hk234 : (y231).toInt = (i).toInt + (1) + k233 * 4294967296 := hk234
              refine lv_iinc (v := y231) (lv' := [(2, .int (y231)), (1, .int (y85)), (0, .ref (mo))]) hx hb dX13_readItem_237 hl (k := 0) rfl (by rw [ey232]; rfl) (by decide) rfl (fun ls hl => ?_)
              refine lv_goto (tgt := 205) hx hb dX13_readItem_240 (by decide) ?_
              have fx237 : V228 (q + 8) = some (.inl (cs 1, 60, .inl (g104))) := (o230 (q + 8) (hq_ne q 8 4 (by decide))).trans (ho110)
              have fx238 : V228 (q + 1) = some (.inl (cs 1, 2, .inl (g38))) := (o230 (q + 1) (hq_ne q 1 4 (by decide))).trans (ho112)
              have fx239 : V228 (mo) = some (.inr (13, hm_o q (m_tp) (m_sz) (z52) (z53) (z54) (z66) (z67) (m_le) (m_fo) (m_as) (m_fd) (m_bc) (m_bg) (m_bs) (m_be) (m_b0) (m_b1) (m_cm) (m_hc))) := (o230 (mo) (hq_tne h_mo (hr_4 hR) (by simp))).trans (ho114)
              exact ih205 _ (by omega) _ _ _ ls (y231) rfl hZ hP fx237 fx238 fx239 (by omega) (by omega) (fun y9 t9 hy9 hg9 => (o230 y9 (hq_gne hy9 (hr_4 hR) hg9 (by decide))).trans (he205 y9 _ hy9 hg9)) (lv_sub hl [0, 1, 2] rfl)
        · have c79 : ¬ (r74).toInt = (-1 : Int) := fun h9 => c79 (hq_eqi.mpr h9)
          refine lv_aload_n hx hb dX13_readItem_172 rfl (lv_at hl 0 rfl) ?_
          refine lv_iconst (v := 2) hx hb dX13_readItem_173 (by decide) ?_
          have hl249 : (2 : Int32).toInt = 2 := by decide
          refine hp_callq (hp_runV (As := [.int (2)]) (rest := []) hx hb hml hown hts (t_X13_wrong l D cs B G  V71 n hP.1 q hR (mo) h_mo (2) ho77  (by omega) (by omega) (by omega) (by omega) (by omega) (by omega) (by omega) (by omega) ) hZ ho77 cv_X13_107 rfl rfl ⟨Nat.le_of_ble_eq_true rfl, Nat.le_of_ble_eq_true rfl⟩ rfl hl.1 rfl (Nat.le_of_ble_eq_true rfl) dX13_readItem_174 ⟨(Nat.le_of_ble_eq_true rfl), (Nat.le_of_ble_eq_true rfl)⟩) hZ (fun r243 V240 n241 _ _ hw242 hZ => ?_)
          obtain ⟨rfl, hq244, ⟨z246, z247, ho248⟩, hr245⟩ := hw242
          have hP := hP.trans hq244 (by intro g h; simp_all)
          have b250 := hq_rng z246
          have b251 := hq_rng z247
          subst hr245
          refine W.eq (g2 := F0 m 177 ls [.ref (q + 19)]) rfl ?_
          exact hq_athrow hx hb hnx hlocks hZ ⟨rfl, rfl, hP, ⟨z52, z53, z54, z246, z247, ho248, by assumption⟩, (hm_E.jh (fun y9 t9 hy9 hg9 => (hq244.2 y9 _ hy9 (by simp [hg9])).trans ((hq75.2 y9 _ hy9 rfl).trans ((hq64.2 y9 _ hy9 (by simp [hg9])).trans ((hq50.2 y9 _ hy9 (by simp [hg9])).trans ((hq14.2 y9 _ hy9 rfl).trans (hq5.2 y9 _ hy9 rfl)))))) hR)⟩ dX13_readItem_177
      · have c45 : (y41).toInt = (30 : Int) := hq_eqi.mp c45
        refine lv_aload_n hx hb dX13_readItem_150 rfl (lv_at hl 0 rfl) ?_
        refine lv_iconst (v := 4) hx hb dX13_readItem_151 (by decide) ?_
        have hl261 : (4 : Int32).toInt = 4 := by decide
        refine hp_callq (hp_runV (As := [.int (4)]) (rest := []) hx hb hml hown hts (t_X13_wrong l D cs B G  V10 n hP.1 q hR (mo) h_mo (4) ho16  (by omega) (by omega) (by omega) (by omega) (by omega) (by omega) (by omega) (by omega) ) hZ ho16 cv_X13_107 rfl rfl ⟨Nat.le_of_ble_eq_true rfl, Nat.le_of_ble_eq_true rfl⟩ rfl hl.1 rfl (Nat.le_of_ble_eq_true rfl) dX13_readItem_152 ⟨(Nat.le_of_ble_eq_true rfl), (Nat.le_of_ble_eq_true rfl)⟩) hZ (fun r255 V252 n253 _ _ hw254 hZ => ?_)
        obtain ⟨rfl, hq256, ⟨z258, z259, ho260⟩, hr257⟩ := hw254
        have hP := hP.trans hq256 (by intro g h; simp_all)
        have b262 := hq_rng z258
        have b263 := hq_rng z259
        subst hr257
        refine W.eq (g2 := F0 m 155 ls [.ref (q + 19)]) rfl ?_
        exact hq_athrow hx hb hnx hlocks hZ ⟨rfl, rfl, hP, ⟨m_fr, m_bh, m_hd, z258, z259, ho260, by assumption⟩, (hm_E.jh (fun y9 t9 hy9 hg9 => (hq256.2 y9 _ hy9 (by simp [hg9])).trans ((hq14.2 y9 _ hy9 rfl).trans (hq5.2 y9 _ hy9 rfl))) hR)⟩ dX13_readItem_155
  · have c9 : ¬ (r4).toInt = (0 : Int) := fun h9 => c9 (hq_eqi.mpr h9)
    refine lv_aload_n hx hb dX13_readItem_9 rfl (lv_at hl 0 rfl) ?_
    refine hp_get (v := .ref (q)) hx hb hts hown hZ ho7 fl_X13_1 rfl dX13_readItem_10 ?_
    refine lv_iconst (v := 1) hx hb dX13_readItem_13 (by decide) ?_
    obtain ⟨hN266, g265, eV264, hf267⟩ := hq_o21 hP.1 (hr_0 hR)
    refine hp_iald hx hb hZ eV264 (by unfold vp_in; decide) dX13_readItem_14 ?_
    refine lv_topi (fun y268 ey269 => ?_)
    have b271 : (y268).toInt = ((g265) (1 : Int32).toNatClampNeg).toInt := by rw [ey269]
    have b270 : hq_ir (hq_lo 11) (hq_hi 11) y268 := by rw [ey269]; exact hf267 _ (by decide)
    have b270 : 0 ≤ (y268).toInt ∧ (y268).toInt ≤ 6 := b270
    refine lv_bipush (v := 6) hx hb dX13_readItem_15 (by decide) ?_
    refine lv_icmp_ne (tgt := 26) hx hb dX13_readItem_17 (by decide) (fun c272 => ?_) (fun c272 => ?_)
    · have c272 : ¬ (y268).toInt = (6 : Int) := fun h9 => c272 (hq_eqi.mpr h9)
      refine lv_aload_n hx hb dX13_readItem_26 rfl (lv_at hl 0 rfl) ?_
      refine hp_callv (hp_runV (As := []) (rest := []) hx hb hml hown hts (t_X13_scan l D cs B G  V1 n hP.1 q hR (mo) h_mo ho7  (by omega) (by omega) (by omega) (by omega) (by omega) (by omega) (by omega) (by omega) (hm_SC.s0 (by assumption)) (hm_SC.s1 (by assumption) (by first | omega | (have h8 := hm_Is.hd (by assumption) (by omega); omega)))) hZ ho7 cv_X13_111 rfl rfl ⟨Nat.le_of_ble_eq_true rfl, Nat.le_of_ble_eq_true rfl⟩ rfl hl.1 rfl (Nat.le_of_ble_eq_true rfl) dX13_readItem_27 ⟨(Nat.le_of_ble_eq_true rfl), (Nat.le_of_ble_eq_true rfl)⟩) hZ (fun V273 n274 _ _ hw275 hZ => ?_)
      obtain ⟨rfl, hq277, ⟨z279, z280, z281, ho282, hi283⟩⟩ := hw275
      have hP := hP.trans hq277 (by intro g h; simp_all)
      have b284 := hq_rng z279
      have b285 := hq_rng z280
      have b286 := hq_rng z281
      refine lv_aload_n hx hb dX13_readItem_30 rfl (lv_at hl 0 rfl) ?_
      refine hq_callx (hq_runV (As := []) (rest := []) hx hb hml hown hts (t_X13_needName l D cs B G  V273 n hP.1 q hR (mo) h_mo ho282  (by omega) (by omega) (by omega) (by omega) (by omega) (by omega) (by omega) (by omega) (by assumption) ) hZ ho282 cv_X13_160 rfl rfl ⟨Nat.le_of_ble_eq_true rfl, Nat.le_of_ble_eq_true rfl⟩ rfl hl.1 rfl (Nat.le_of_ble_eq_true rfl) dX13_readItem_31 ⟨(Nat.le_of_ble_eq_true rfl), (Nat.le_of_ble_eq_true rfl)⟩) hZ hnx hlocks (by rintro x9 V9 n9 ⟨rfl, rfl, hq9, ⟨z293x, z294x, hox0⟩⟩; have hbxz293 := hq_rng z293x; have hbxz294 := hq_rng z294x; exact ⟨rfl, rfl, hP.trans hq9 (by intro g h; simp_all), ⟨z279, z280, z281, z293x, z294x, hox0, by assumption⟩, (hm_E.jh (fun y9 t9 hy9 hg9 => (hq277.2 y9 _ hy9 (by simp [hg9])).trans (hq5.2 y9 _ hy9 rfl)) hR).keep hR (fun x t hx hg => hq9.2 x t hx (by simp [hg]))⟩) (fun v9 V287 n288 _ _ hw289 hZ => ?_)
      obtain ⟨rfl, rfl, hq291, ⟨z293, z294, ho295⟩, hr292⟩ := hw289
      refine W.eq (g2 := F0 m 34 ls []) rfl ?_
      have hP := hP.trans hq291 (by intro g h; simp_all)
      have b296 := hq_rng z293
      have b297 := hq_rng z294
      have ha1 := hm_SC.a1 (by assumption : hm_SC m_sz z279 z280 z281) (by omega)
      refine lv_aload_n hx hb dX13_readItem_34 rfl (lv_at hl 0 rfl) ?_
      refine hp_calli (hp_runV (As := []) (rest := []) hx hb hml hown hts (t_X13_classAtHand l D cs B G  V287 n hP.1 q hR (mo) h_mo ho295  (by omega) (by omega) (by omega) (by omega) (by omega) (by omega) (by omega) (by omega) (by assumption) (by omega)) hZ ho295 cv_X13_163 rfl rfl ⟨Nat.le_of_ble_eq_true rfl, Nat.le_of_ble_eq_true rfl⟩ rfl hl.1 rfl (Nat.le_of_ble_eq_true rfl) dX13_readItem_35 ⟨(Nat.le_of_ble_eq_true rfl), (Nat.le_of_ble_eq_true rfl)⟩) hZ (fun r301 V298 n299 _ _ hw300 hZ => ?_)
      obtain ⟨rfl, hq302, ho304, hr303⟩ := hw300
      have hP := hP.trans hq302 (fun _ _ => rfl)
      have b305 := hq_rng r301
      refine lv_iconst (v := -1) hx hb dX13_readItem_38 (by decide) ?_
      refine lv_icmp_eq (tgt := 48) hx hb dX13_readItem_39 (by decide) (fun c306 => ?_) (fun c306 => ?_)
      · have c306 : (r301).toInt = (-1 : Int) := hq_eqi.mp c306
        refine lv_bipush (v := 6) hx hb dX13_readItem_48 (by decide) ?_
        refine lv_aload_n hx hb dX13_readItem_50 rfl (lv_at hl 0 rfl) ?_
        refine hp_get (v := .ref (q)) hx hb hts hown hZ ho304 fl_X13_1 rfl dX13_readItem_51 ?_
        refine lv_iconst (v := 1) hx hb dX13_readItem_54 (by decide) ?_
        have fx307 : V298 (q) = some (.inl (cs 1, 2, .inl (g265))) := (hq302.2 (q) _ (hr_0 hR) rfl).trans ((hq291.2 (q) _ (hr_0 hR) rfl).trans ((hq277.2 (q) _ (hr_0 hR) rfl).trans (eV264)))
        refine hp_iald hx hb hZ fx307 (by unfold vp_in; decide) dX13_readItem_55 ?_
        refine lv_topi (fun y308 ey309 => ?_)
        have b311 : (y308).toInt = ((g265) (1 : Int32).toNatClampNeg).toInt := by rw [ey309]
        have b310 : hq_ir (hq_lo 11) (hq_hi 11) y308 := by rw [ey309]; exact hf267 _ (by decide)
        have b310 : 0 ≤ (y308).toInt ∧ (y308).toInt ≤ 6 := b310
        refine lv_iadd hx hb dX13_readItem_56 ?_
        refine lv_topi (fun y312 ey313 => ?_)
        obtain ⟨k314, hk315, b316, b317⟩ := hq_add (6) (y308)
        rw [← ey313] at hk315 b316 b317
        have hk315 : (y312).toInt = (6 : Int) + (y308).toInt + k314 * 4294967296 := hk315
        obtain rfl : k314 = 0 := by omega
        refine lv_istore_n (lv' := [(1, .int (y312)), (0, .ref (mo))]) hx hb dX13_readItem_57 rfl hl (by decide) rfl (fun ls hl => ?_)
        refine lv_aload_n hx hb dX13_readItem_58 rfl (lv_at hl 1 rfl) ?_
        refine hp_get (v := .ref (q + 7)) hx hb hts hown hZ ho304 fl_X13_153 rfl dX13_readItem_59 ?_
        refine lv_iload_n hx hb dX13_readItem_62 rfl (lv_at hl 0 rfl) ?_
        refine lv_aload_n hx hb dX13_readItem_63 rfl (lv_at hl 1 rfl) ?_
        refine hp_get (v := .int (z280)) hx hb hts hown hZ ho304 fl_X13_76 rfl dX13_readItem_64 ?_
        refine lv_aload_n hx hb dX13_readItem_67 rfl (lv_at hl 1 rfl) ?_
        refine hp_get (v := .int (z279)) hx hb hts hown hZ ho304 fl_X13_60 rfl dX13_readItem_68 ?_
        refine lv_isub hx hb dX13_readItem_71 ?_
        refine lv_topi (fun y318 ey319 => ?_)
        obtain ⟨k320, hk321, b322, b323⟩ := hq_sub (z280) (z279)
        rw [← ey319] at hk321 b322 b323
        have hk321 : (y318).toInt = (z280).toInt - (z279).toInt + k320 * 4294967296 := hk321
        obtain rfl : k320 = 0 := by omega
        obtain ⟨hN326, g325, eV324, hf327⟩ := hq_o21 hP.1 (hr_7 hR)
        refine hp_iast hx hb hZ eV324 (hq_in (by omega) (by omega)) dX13_readItem_72 (fun V328 _ _ e329 o330 hZ => ?_)
        have e329 : V328 (q + 7) = some (.inl (cs 1, 12, .inl (upd (g325) ((y312 : Int32).toNatClampNeg) (y318)))) := e329
        have hP := hP.put (hr_7 hR) e329 o330 (hq_c21 (by omega) (hq_upd hf327 (show 0 ≤ _ ∧ _ ≤ 12 by constructor <;> omega))) rfl
        obtain ⟨g331, ge332⟩ : ∃ g9 : Nat → Int32, g9 = upd (g325) ((y312 : Int32).toNatClampNeg) (y318) := ⟨_, rfl⟩
        have fx334 : V328 (q + 7) = some (.inl (cs 1, 12, .inl (g331))) := by rw [ge332]; exact e329
        have hf333 := hq_rg hP.1 (hr_7 hR) fx334
        have b335 : (g331 (y312 : Int32).toNatClampNeg).toInt = (y318 : Int32).toInt := congrArg Int32.toInt ((congrFun ge332 _).trans hm_ue)
        refine lv_iconst (v := 0) hx hb dX13_readItem_73 (by decide) ?_
        refine lv_istore_n (lv' := [(2, .int (0)), (1, .int (y312)), (0, .ref (mo))]) hx hb dX13_readItem_74 rfl hl (by decide) rfl (fun ls hl => ?_)
        have hl336 : (0 : Int32).toInt = 0 := by decide
        have fx338 : V328 (q) = some (.inl (cs 1, 2, .inl (g265))) := (o330 (q) (hq_ne q 0 7 (by decide))).trans (fx307)
        have fx340 : V328 (mo) = some (.inr (13, hm_o q (m_tp) (m_sz) (z279) (z280) (z281) (z293) (z294) (m_le) (m_fo) (m_as) (m_fd) (m_bc) (m_bg) (m_bs) (m_be) (m_b0) (m_b1) (m_cm) (m_hc))) := (o330 (mo) (hq_tne h_mo (hr_7 hR) (by simp))).trans (ho304)
        suffices lp75 : ∀ (k9 : Nat) (V9 : hp_V) (H9 : Heap) (locs9 : List Loc) (ls : Array Slot) (i : Int32), (200 - i.toInt).toNat = k9 → hp_Z D cs B s V9 H9 n locs9 → hq_P cs G (fun g => g.1 == 1 || g.1 == 41 || g.1 == 50) V V9 → V9 (q + 7) = some (.inl (cs 1, 12, .inl (g331))) → V9 (q) = some (.inl (cs 1, 2, .inl (g265))) → V9 (mo) = some (.inr (13, hm_o q (m_tp) (m_sz) (z279) (z280) (z281) (z293) (z294) (m_le) (m_fo) (m_as) (m_fd) (m_bc) (m_bg) (m_bs) (m_be) (m_b0) (m_b1) (m_cm) (m_hc))) → 0 ≤ i.toInt → i.toInt ≤ 100 → hm_E G V V9 → lv_has ls 3 [(2, .int (i)), (1, .int (y312)), (0, .ref (mo))] → W p l e ({ frames := 11, cells := 0, slots := 0, locals := 234 }) s m ([.ref (mo)] : List Value).toArray below meth c H9 locs9 0 0 (hq_MQ below (hq_QX D cs B (fun v V' n' => v = none ∧ n = n' ∧ hq_P cs G (fun g => g.1 == 1 || g.1 == 41 || g.1 == 50) V V' ∧ (∃ (m_fr1 : Int32) (m_bh1 : Int32) (m_hd1 : Int32) (m_ft1 : Int32) (m_fa1 : Int32), V' mo = some (.inr (13, hm_o q (m_tp) (m_sz) (m_fr1) (m_bh1) (m_hd1) (m_ft1) (m_fa1) (m_le) (m_fo) (m_as) (m_fd) (m_bc) (m_bg) (m_bs) (m_be) (m_b0) (m_b1) (m_cm) (m_hc))) ∧ (hm_SC m_sz m_fr1 m_bh1 m_hd1)) ∧ (hm_JH cs V V' q ∧ hm_JJ cs V V' q)) (fun x V' n' => x = q + 19 ∧ n = n' ∧ hq_P cs G (fun g => g.1 == 1 || g.1 == 41 || g.1 == 50) V V' ∧ (∃ (m_fr1 : Int32) (m_bh1 : Int32) (m_hd1 : Int32) (m_ft1 : Int32) (m_fa1 : Int32), V' mo = some (.inr (13, hm_o q (m_tp) (m_sz) (m_fr1) (m_bh1) (m_hd1) (m_ft1) (m_fa1) (m_le) (m_fo) (m_as) (m_fd) (m_bc) (m_bg) (m_bs) (m_be) (m_b0) (m_b1) (m_cm) (m_hc))) ∧ (hm_SC m_sz m_fr1 m_bh1 m_hd1)) ∧ hm_JH cs V V' q)) ([.ref (mo)] : List Value).toArray s 0 0 (hp_F B)) (F0 m 75 ls []) from lp75 _ _ _ _ ls (0) rfl hZ hP fx334 fx338 fx340 (by omega) (by omega) (fun y9 t9 hy9 hg9 => (o330 y9 (hq_gne hy9 (hr_7 hR) hg9 (by decide))).trans ((hq302.2 y9 _ hy9 rfl).trans ((hq291.2 y9 _ hy9 (by simp [hg9])).trans ((hq277.2 y9 _ hy9 (by simp [hg9])).trans (hq5.2 y9 _ hy9 rfl))))) (lv_sub hl [0, 1, 2] rfl)
        intro k9
        induction k9 using Nat.strongRecOn with
        | _ k9 ih75 =>
          intro V9 H9 locs9 ls i  hk75 hZ hP ho337 ho339 ho341 hv342 hv343 he75 hl
          have hb_i := hq_rng i
          have hP_75 := hP
          have hf344 := hq_rg hP.1 (hr_7 hR) ho337
          have hf345 := hq_rg hP.1 (hr_0 hR) ho339
          refine lv_iload_n hx hb dX13_readItem_75 rfl (lv_at hl 0 rfl) ?_
          refine lv_aload_n hx hb dX13_readItem_76 rfl (lv_at hl 2 rfl) ?_
          refine hp_get (v := .ref (q + 7)) hx hb hts hown hZ ho341 fl_X13_153 rfl dX13_readItem_77 ?_
          refine lv_iload_n hx hb dX13_readItem_80 rfl (lv_at hl 1 rfl) ?_
          refine hp_iald hx hb hZ ho337 (hq_in (by omega) (by omega)) dX13_readItem_81 ?_
          refine lv_topi (fun y346 ey347 => ?_)
          have b349 : (y346).toInt = ((g331) (y312 : Int32).toNatClampNeg).toInt := by rw [ey347]
          have b348 : hq_ir (hq_lo 2) (hq_hi 2) y346 := by rw [ey347]; exact hf344 _ (hq_ix (by omega) (by omega))
          have b348 : 0 ≤ (y346).toInt ∧ (y346).toInt ≤ 12 := b348
          refine lv_icmp_ge (tgt := 113) hx hb dX13_readItem_82 (by decide) (fun c350 => ?_) (fun c350 => ?_)
          · have c350 : (y346).toInt ≤ (i).toInt := hq_lei.mp c350
            refine lv_aload_n hx hb dX13_readItem_113 rfl (lv_at hl 2 rfl) ?_
            refine hp_get (v := .ref (q)) hx hb hts hown hZ ho341 fl_X13_1 rfl dX13_readItem_114 ?_
            refine lv_iconst (v := 1) hx hb dX13_readItem_117 (by decide) ?_
            refine lv_dup2_11 hx hb dX13_readItem_118 rfl rfl ?_
            refine hp_iald hx hb hZ ho339 (by unfold vp_in; decide) dX13_readItem_119 ?_
            refine lv_topi (fun y351 ey352 => ?_)
            have b354 : (y351).toInt = ((g265) (1 : Int32).toNatClampNeg).toInt := by rw [ey352]
            have b353 : hq_ir (hq_lo 11) (hq_hi 11) y351 := by rw [ey352]; exact hf345 _ (by decide)
            have b353 : 0 ≤ (y351).toInt ∧ (y351).toInt ≤ 6 := b353
            refine lv_iconst (v := 1) hx hb dX13_readItem_120 (by decide) ?_
            refine lv_iadd hx hb dX13_readItem_121 ?_
            refine lv_topi (fun y355 ey356 => ?_)
            obtain ⟨k357, hk358, b359, b360⟩ := hq_add (y351) (1)
            rw [← ey356] at hk358 b359 b360
            have hk358 : (y355).toInt = (y351).toInt + (1 : Int) + k357 * 4294967296 := hk358
            obtain rfl : k357 = 0 := by omega
            refine hp_iast hx hb hZ ho339 (by unfold vp_in; decide) dX13_readItem_122 (fun V361 _ _ e362 o363 hZ => ?_)
            have e362 : V361 (q) = some (.inl (cs 1, 2, .inl (upd (g265) ((1 : Int32).toNatClampNeg) (y355)))) := e362
            have hP := hP.put (hr_0 hR) e362 o363 (hq_c21 (by omega) (hq_upd hf345 (show 0 ≤ _ ∧ _ ≤ 6 by constructor <;> omega))) rfl
            refine lv_aload_n hx hb dX13_readItem_123 rfl (lv_at hl 2 rfl) ?_
            have fx370 : V361 (mo) = some (.inr (13, hm_o q (m_tp) (m_sz) (z279) (z280) (z281) (z293) (z294) (m_le) (m_fo) (m_as) (m_fd) (m_bc) (m_bg) (m_bs) (m_be) (m_b0) (m_b1) (m_cm) (m_hc))) := (o363 (mo) (hq_tne h_mo (hr_0 hR) (by simp))).trans (ho341)
            refine hp_callv (hp_runV (As := []) (rest := []) hx hb hml hown hts (t_X13_scan l D cs B G  V361 n hP.1 q hR (mo) h_mo fx370  (by omega) (by omega) (by omega) (by omega) (by omega) (by omega) (by omega) (by omega) (hm_SC.s0 (by assumption)) (hm_SC.s1 (by assumption) (by first | omega | (have h8 := hm_Is.hd (by assumption) (by omega); omega)))) hZ fx370 cv_X13_111 rfl rfl ⟨Nat.le_of_ble_eq_true rfl, Nat.le_of_ble_eq_true rfl⟩ rfl hl.1 rfl (Nat.le_of_ble_eq_true rfl) dX13_readItem_124 ⟨(Nat.le_of_ble_eq_true rfl), (Nat.le_of_ble_eq_true rfl)⟩) hZ (fun V364 n365 _ _ hw366 hZ => ?_)
            obtain ⟨rfl, hq368, ⟨z371, z372, z373, ho374, hi375⟩⟩ := hw366
            have hP := hP.trans hq368 (by intro g h; simp_all)
            have b376 := hq_rng z371
            have b377 := hq_rng z372
            have b378 := hq_rng z373
            refine lv_goto (tgt := 280) hx hb dX13_readItem_127 (by decide) ?_
            exact hq_vret hx hb hr hlocks hZ ⟨rfl, rfl, hP, ⟨z371, z372, z373, z293, z294, ho374, by assumption⟩, ⟨hm_E.jh (fun y9 t9 hy9 hg9 => (hq368.2 y9 _ hy9 (by simp [hg9])).trans ((o363 y9 (hq_gne hy9 (hr_0 hR) hg9 (by decide))).trans (he75 y9 _ hy9 hg9))) hR, hm_E.jj (fun y9 t9 hy9 hg9 => (hq368.2 y9 _ hy9 (by simp [hg9])).trans ((o363 y9 (hq_gne hy9 (hr_0 hR) hg9 (by decide))).trans (he75 y9 _ hy9 hg9))) hR⟩⟩ dX13_readItem_280
          · have c350 : ¬ (y346).toInt ≤ (i).toInt := fun h9 => c350 (hq_lei.mpr h9)
            refine lv_aload_n hx hb dX13_readItem_85 rfl (lv_at hl 2 rfl) ?_
            refine hp_get (v := .ref (q + 3)) hx hb hts hown hZ ho341 fl_X13_150 rfl dX13_readItem_86 ?_
            refine lv_bipush (v := 12) hx hb dX13_readItem_89 (by decide) ?_
            refine lv_iload_n hx hb dX13_readItem_91 rfl (lv_at hl 1 rfl) ?_
            refine lv_imul hx hb dX13_readItem_92 ?_
            refine lv_topi (fun y379 ey380 => ?_)
            obtain ⟨k381, hk382, b383, b384⟩ := hq_mul (12) (y312)
            rw [← ey380] at hk382 b383 b384
            have hk382 : (y379).toInt = (12 : Int) * (y312).toInt + k381 * 4294967296 := hk382
            obtain rfl : k381 = 0 := by omega
            refine lv_iload_n hx hb dX13_readItem_93 rfl (lv_at hl 0 rfl) ?_
            refine lv_iadd hx hb dX13_readItem_94 ?_
            refine lv_topi (fun y385 ey386 => ?_)
            obtain ⟨k387, hk388, b389, b390⟩ := hq_add (y379) (i)
            rw [← ey386] at hk388 b389 b390
            have hk388 : (y385).toInt = (y379).toInt + (i).toInt + k387 * 4294967296 := hk388
            obtain rfl : k387 = 0 := by omega
            refine lv_aload_n hx hb dX13_readItem_95 rfl (lv_at hl 2 rfl) ?_
            refine hp_get (v := .ref (q + 20)) hx hb hts hown hZ ho341 fl_X13_73 rfl dX13_readItem_96 ?_
            refine lv_aload_n hx hb dX13_readItem_99 rfl (lv_at hl 2 rfl) ?_
            refine hp_get (v := .int (z279)) hx hb hts hown hZ ho341 fl_X13_60 rfl dX13_readItem_100 ?_
            refine lv_iload_n hx hb dX13_readItem_103 rfl (lv_at hl 0 rfl) ?_
            refine lv_iadd hx hb dX13_readItem_104 ?_
            refine lv_topi (fun y391 ey392 => ?_)
            obtain ⟨k393, hk394, b395, b396⟩ := hq_add (z279) (i)
            rw [← ey392] at hk394 b395 b396
            have hk394 : (y391).toInt = (z279).toInt + (i).toInt + k393 * 4294967296 := hk394
            obtain rfl : k393 = 0 := by omega
            obtain ⟨hN399, g398, eV397⟩ := hq_o20 hP.1 (hr_20 hR)
            refine hp_bald hx hb hZ eV397 (hq_in (by omega) (by omega)) dX13_readItem_105 ?_
            refine lv_topi (fun y401 ey402 => ?_)
            have b404 : (y401).toInt = ((g398) (y391 : Int32).toNatClampNeg).toInt := by rw [ey402]
            have b403 := hq_rng y401
            obtain ⟨hN407, g406, eV405⟩ := hq_o20 hP.1 (hr_3 hR)
            refine hp_bast hx hb hZ eV405 (hq_in (by omega) (by omega)) dX13_readItem_106 (fun V409 _ _ e410 o411 hZ => ?_)
            have e410 : V409 (q + 3) = some (.inl (cs 0, 144, .inl (upd (g406) ((y385 : Int32).toNatClampNeg) ((y401 : Int32).toInt8.toInt32)))) := e410
            have hP := hP.put (hr_3 hR) e410 o411 (hq_c20 (by omega)) rfl
            obtain ⟨y412, ey413⟩ : ∃ y : Int32, y = i + (1) := ⟨_, rfl⟩
            obtain ⟨k414, hk415, b416, b417⟩ := hq_add (i) (1)
            rw [← ey413] at hk415 b416 b417
            have hk415 : (y412).toInt = (i).toInt + (1) + k414 * 4294967296 := hk415
            refine lv_iinc (v := y412) (lv' := [(2, .int (y412)), (1, .int (y312)), (0, .ref (mo))]) hx hb dX13_readItem_107 hl (k := 0) rfl (by rw [ey413]; rfl) (by decide) rfl (fun ls hl => ?_)
            refine lv_goto (tgt := 75) hx hb dX13_readItem_110 (by decide) ?_
            have fx418 : V409 (q + 7) = some (.inl (cs 1, 12, .inl (g331))) := (o411 (q + 7) (hq_ne q 7 3 (by decide))).trans (ho337)
            have fx419 : V409 (q) = some (.inl (cs 1, 2, .inl (g265))) := (o411 (q) (hq_ne q 0 3 (by decide))).trans (ho339)
            have fx420 : V409 (mo) = some (.inr (13, hm_o q (m_tp) (m_sz) (z279) (z280) (z281) (z293) (z294) (m_le) (m_fo) (m_as) (m_fd) (m_bc) (m_bg) (m_bs) (m_be) (m_b0) (m_b1) (m_cm) (m_hc))) := (o411 (mo) (hq_tne h_mo (hr_3 hR) (by simp))).trans (ho341)
            exact ih75 _ (by omega) _ _ _ ls (y412) rfl hZ hP fx418 fx419 fx420 (by omega) (by omega) (fun y9 t9 hy9 hg9 => (o411 y9 (hq_gne hy9 (hr_3 hR) hg9 (by decide))).trans (he75 y9 _ hy9 hg9)) (lv_sub hl [0, 1, 2] rfl)
      · have c306 : ¬ (r301).toInt = (-1 : Int) := fun h9 => c306 (hq_eqi.mpr h9)
        refine lv_aload_n hx hb dX13_readItem_42 rfl (lv_at hl 0 rfl) ?_
        refine lv_iconst (v := 2) hx hb dX13_readItem_43 (by decide) ?_
        have hl430 : (2 : Int32).toInt = 2 := by decide
        refine hp_callq (hp_runV (As := [.int (2)]) (rest := []) hx hb hml hown hts (t_X13_wrong l D cs B G  V298 n hP.1 q hR (mo) h_mo (2) ho304  (by omega) (by omega) (by omega) (by omega) (by omega) (by omega) (by omega) (by omega) ) hZ ho304 cv_X13_107 rfl rfl ⟨Nat.le_of_ble_eq_true rfl, Nat.le_of_ble_eq_true rfl⟩ rfl hl.1 rfl (Nat.le_of_ble_eq_true rfl) dX13_readItem_44 ⟨(Nat.le_of_ble_eq_true rfl), (Nat.le_of_ble_eq_true rfl)⟩) hZ (fun r424 V421 n422 _ _ hw423 hZ => ?_)
        obtain ⟨rfl, hq425, ⟨z427, z428, ho429⟩, hr426⟩ := hw423
        have hP := hP.trans hq425 (by intro g h; simp_all)
        have b431 := hq_rng z427
        have b432 := hq_rng z428
        subst hr426
        refine W.eq (g2 := F0 m 47 ls [.ref (q + 19)]) rfl ?_
        exact hq_athrow hx hb hnx hlocks hZ ⟨rfl, rfl, hP, ⟨z279, z280, z281, z427, z428, ho429, by assumption⟩, (hm_E.jh (fun y9 t9 hy9 hg9 => (hq425.2 y9 _ hy9 (by simp [hg9])).trans ((hq302.2 y9 _ hy9 rfl).trans ((hq291.2 y9 _ hy9 (by simp [hg9])).trans ((hq277.2 y9 _ hy9 (by simp [hg9])).trans (hq5.2 y9 _ hy9 rfl))))) hR)⟩ dX13_readItem_47
    · have c272 : (y268).toInt = (6 : Int) := hq_eqi.mp c272
      refine lv_aload_n hx hb dX13_readItem_20 rfl (lv_at hl 0 rfl) ?_
      refine lv_iconst (v := 4) hx hb dX13_readItem_21 (by decide) ?_
      have hl442 : (4 : Int32).toInt = 4 := by decide
      refine hp_callq (hp_runV (As := [.int (4)]) (rest := []) hx hb hml hown hts (t_X13_wrong l D cs B G  V1 n hP.1 q hR (mo) h_mo (4) ho7  (by omega) (by omega) (by omega) (by omega) (by omega) (by omega) (by omega) (by omega) ) hZ ho7 cv_X13_107 rfl rfl ⟨Nat.le_of_ble_eq_true rfl, Nat.le_of_ble_eq_true rfl⟩ rfl hl.1 rfl (Nat.le_of_ble_eq_true rfl) dX13_readItem_22 ⟨(Nat.le_of_ble_eq_true rfl), (Nat.le_of_ble_eq_true rfl)⟩) hZ (fun r436 V433 n434 _ _ hw435 hZ => ?_)
      obtain ⟨rfl, hq437, ⟨z439, z440, ho441⟩, hr438⟩ := hw435
      have hP := hP.trans hq437 (by intro g h; simp_all)
      have b443 := hq_rng z439
      have b444 := hq_rng z440
      subst hr438
      refine W.eq (g2 := F0 m 25 ls [.ref (q + 19)]) rfl ?_
      exact hq_athrow hx hb hnx hlocks hZ ⟨rfl, rfl, hP, ⟨m_fr, m_bh, m_hd, z439, z440, ho441, by assumption⟩, (hm_E.jh (fun y9 t9 hy9 hg9 => (hq437.2 y9 _ hy9 (by simp [hg9])).trans (hq5.2 y9 _ hy9 rfl)) hR)⟩ dX13_readItem_25

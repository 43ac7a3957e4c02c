set_option maxHeartbeats 8000000 in
set_option maxRecDepth 100000 in
theorem hx_c_answer {p : Program} {e : Env} {s : State} {m : MethodId} {below : List Frame} {meth : Method} {c : Code} (l : Launch) (D : va_G) (cs : Nat → ClassId) (B : Nat) (G : hq_G) {b L : Nat} {xs : Nat → Int32} (hx : p.tables.exec = Jvm.exec) (hb : c.code = code) (hml : c.maxLocals = 4) (hown : s.vm.findClass RL = some m.cls) (hts : ∀ w ∈ TBG, w.before #[Value.ref b] s = true) (hX : va_X b L xs s s.heap) (hbl : b < s.heap.size) (hbA : ¬ hp_F B b) (hL : L ≤ 3072) (a nb mo q n : Nat) (hT : hk_Ty G a nb mo q) (hT2 : hk_T2 G nb q) (hT3 : hk_T3 G nb) (hT4 : hk_T4 G nb q) (hak : a + 1 = nb) (hmo9 : mo = nb + 842) (hq9 : q = nb + 843) (i : Int32) (hi0 : 0 ≤ i.toInt) (hi1 : i.toInt + 6 ≤ L) (kk : ∀ (V9 : hp_V) (H9 : Heap) (locs9 : List Loc) (ls : Array Slot), hp_Z D cs B s V9 H9 n locs9 → hk_InvX cs G a nb mo q V9 → lv_has ls 4 [(3, .int i), (2, .ref mo), (1, .ref a), (0, .ref b)] → W p l e room_1 s m #[Value.ref b] below meth c H9 locs9 891 28710 (lw_Z below #[Value.ref b] s) (F0 m 761 ls [])) (V9 : hp_V) (H9 : Heap) (locs9 : List Loc) (ls : Array Slot) (hZ : hp_Z D cs B s V9 H9 n locs9) (hinv : hk_InvX cs G a nb mo q V9) (hl : lv_has ls 4 [(3, .int i), (2, .ref mo), (1, .ref a), (0, .ref b)]) : W p l e room_1 s m #[Value.ref b] below meth c H9 locs9 891 28710 (lw_Z below #[Value.ref b] s) (F0 m 606 ls []) := by
  obtain ⟨ty0, ty1, ty2, ty3, ty4, ty5, ty6, ty7, ty8, ty9, ty10, ty11, ty12, ty13, ty14, ty15, ty16, ty17, ty18, ty19, ty20, hR⟩ := id hT
  obtain ⟨hI, c_fs, q_fk, q_fp, q_nx, q_tk, q_st, e_fd, e_sz, p_z, m_tp, m_sz, m_fr, m_bh, m_hd, m_ft, m_fa, m_le, m_fo, m_as, m_fd, m_bc, m_bg, m_bs, m_be, m_b0, m_b1, m_cm, m_hc, c_to, c_sp, q_tx, q_ou, e_bk, e_an, e_mk, ho_a, htold, hfs, hJ, ho_p, ho_e, hef, hes, ho_n, ho_m, hiv0, hiv1, hiv2, hiv3, hiv4, hiv5, hiv6, hiv7, hzt, hVQ, hst, hE, hCH⟩ := hinv
  have hP : hq_P cs G (fun _ => true) V9 V9 := hq_P.rf hI
  have hb_c_fs := hq_rng c_fs
  have hb_q_fk := hq_rng q_fk
  have hb_q_fp := hq_rng q_fp
  have hb_q_nx := hq_rng q_nx
  have hb_q_tk := hq_rng q_tk
  have hb_q_st := hq_rng q_st
  have hb_e_fd := hq_rng e_fd
  have hb_e_sz := hq_rng e_sz
  have hb_p_z := hq_rng p_z
  have hb_m_tp := hq_rng m_tp
  have hb_m_sz := hq_rng m_sz
  have hb_m_fr := hq_rng m_fr
  have hb_m_bh := hq_rng m_bh
  have hb_m_hd := hq_rng m_hd
  have hb_m_ft := hq_rng m_ft
  have hb_m_fa := hq_rng m_fa
  have hb_m_le := hq_rng m_le
  have hb_m_fo := hq_rng m_fo
  have hb_m_as := hq_rng m_as
  have hb_m_fd := hq_rng m_fd
  have hb_m_bc := hq_rng m_bc
  have hb_m_bg := hq_rng m_bg
  have hb_m_bs := hq_rng m_bs
  have hb_m_be := hq_rng m_be
  have hb_m_b0 := hq_rng m_b0
  have hb_m_b1 := hq_rng m_b1
  have hb_m_cm := hq_rng m_cm
  have hb_m_hc := hq_rng m_hc
  have hb_i := hq_rng i
  rcases htold with ⟨rfl, rfl⟩ | ⟨rfl, rfl⟩
  · obtain ⟨hE0, ⟨w, hTx, hTm, hoc⟩, ⟨wb, bk, rh, hAR0, hBm, ⟨hgood, hgood2, hocb⟩, hBx⟩, hS0, hS1, hTS⟩ := id hE
    obtain ⟨hz1, hz2, tg0, htg0, hz3⟩ := hx_TP.opn hTx ho_n
    obtain ⟨tg1, htg1, hok, hz4⟩ := id hTm
    obtain ⟨hm1, hm2, hm3, -⟩ := id hBm
    refine lv_aload_n hx hb dL_law_606 rfl (lv_at hl 2 rfl) ?_
    refine lv_aload_n hx hb dL_law_607 rfl (lv_at hl 3 rfl) ?_
    refine lv_iload_n hx hb dL_law_608 rfl (lv_at hl 0 rfl) ?_
    refine lv_iconst (v := 1) hx hb dL_law_609 (by decide) ?_
    refine lv_iadd hx hb dL_law_610 ?_
    refine va_sld hx hb hX hbl hbA hZ.2.1 (hk_ix hi0 hi1 hL (by decide) (by decide)) dL_law_611 ?_
    refine lv_topi (fun y1 ey2 => ?_)
    refine lv_aload_n hx hb dL_law_612 rfl (lv_at hl 3 rfl) ?_
    refine lv_iload_n hx hb dL_law_613 rfl (lv_at hl 0 rfl) ?_
    refine lv_iconst (v := 2) hx hb dL_law_614 (by decide) ?_
    refine lv_iadd hx hb dL_law_615 ?_
    refine va_sld hx hb hX hbl hbA hZ.2.1 (hk_ix hi0 hi1 hL (by decide) (by decide)) dL_law_616 ?_
    refine lv_topi (fun y3 ey4 => ?_)
    refine lv_aload_n hx hb dL_law_617 rfl (lv_at hl 3 rfl) ?_
    refine lv_iload_n hx hb dL_law_618 rfl (lv_at hl 0 rfl) ?_
    refine lv_iconst (v := 3) hx hb dL_law_619 (by decide) ?_
    refine lv_iadd hx hb dL_law_620 ?_
    refine va_sld hx hb hX hbl hbA hZ.2.1 (hk_ix hi0 hi1 hL (by decide) (by decide)) dL_law_621 ?_
    refine lv_topi (fun y5 ey6 => ?_)
    refine lv_aload_n hx hb dL_law_622 rfl (lv_at hl 3 rfl) ?_
    refine lv_iload_n hx hb dL_law_623 rfl (lv_at hl 0 rfl) ?_
    refine lv_iconst (v := 4) hx hb dL_law_624 (by decide) ?_
    refine lv_iadd hx hb dL_law_625 ?_
    refine va_sld hx hb hX hbl hbA hZ.2.1 (hk_ix hi0 hi1 hL (by decide) (by decide)) dL_law_626 ?_
    refine lv_topi (fun y7 ey8 => ?_)
    obtain ⟨kk9, mm9, tt9, wh9, mi9, ta9, gf9, hch1, hch2, hch3, hch4, hch5, hch6, hch7, hgf9, hch9⟩ := id hCH
    have hask9 : sp_rp p_z tg0 (sp_tw w) := sp_tw_rp (by omega) hz1 hz3
    refine hp_calli (hp_runV (As := [.int (y1), .int (y3), .int (y5), .int (y7)]) (rest := []) hx hb hml hown hts (x_answer_0 l D cs B G V9 n hP.1 (a) (nb) (nb + 88) (nb + 465) (mo) (q) (wb) (bk) ((sp_tw w)) (y1) (y3) (y5) (y7) (c_fs) (e_fd) (e_sz) (e_bk) (e_an) (e_mk) (p_z) (tg0) (kk9) (mm9) (tt9) (gf9)  ho_a ho_e ho_n htg0 hch1 hch2 hch3 hch7  hT hT2 hT3 hak rfl hBx hS0.2.1 hgood hgood2 hBm.g8 hask9 (by omega) hgf9 (by omega) (by omega)) hZ ho_a cv_L_74 rfl rfl ⟨Nat.le_of_ble_eq_true rfl, Nat.le_of_ble_eq_true rfl⟩ rfl hl.1 rfl (Nat.le_of_ble_eq_true rfl) dL_law_627 ⟨(Nat.le_of_ble_eq_true rfl), (Nat.le_of_ble_eq_true rfl)⟩) hZ (fun r13 V10 n11 _ _ hw12 hZ => ?_)
    obtain ⟨rfl, hq14, fr15, z16, z17, u18, u19, u20, u21, u22, u23, ho24, ho25, ho26, ho27, ho28, ho29, ho30, hp31, hp32⟩ := hw12
    have b33 := hq_rng z16
    have b34 := hq_rng z17
    have hP := hP.trans hq14 (fun _ h => Bool.noConfusion h)
    have hf35 := hq_rg2 hP.1 ty13 ho27
    have hf36 := hq_rg2 hP.1 ty14 ho28
    have hf37 := hq_rg2 hP.1 ty15 ho29
    have b38 := hq_rng r13
    have b39 := hp32
    refine lv_pop hx hb dL_law_630 rfl ?_
    refine lv_aload_n hx hb dL_law_631 rfl (lv_at hl 1 rfl) ?_
    refine lv_aload_n hx hb dL_law_632 rfl (lv_at hl 3 rfl) ?_
    refine lv_iload_n hx hb dL_law_633 rfl (lv_at hl 0 rfl) ?_
    refine lv_iconst (v := 1) hx hb dL_law_634 (by decide) ?_
    refine lv_iadd hx hb dL_law_635 ?_
    refine va_sld hx hb hX hbl hbA hZ.2.1 (hk_ix hi0 hi1 hL (by decide) (by decide)) dL_law_636 ?_
    refine lv_topi (fun y40 ey41 => ?_)
    have b42 : y1 = y40 := by rw [ey41, ey2]
    subst b42
    refine lv_aload_n hx hb dL_law_637 rfl (lv_at hl 3 rfl) ?_
    refine lv_iload_n hx hb dL_law_638 rfl (lv_at hl 0 rfl) ?_
    refine lv_iconst (v := 2) hx hb dL_law_639 (by decide) ?_
    refine lv_iadd hx hb dL_law_640 ?_
    refine va_sld hx hb hX hbl hbA hZ.2.1 (hk_ix hi0 hi1 hL (by decide) (by decide)) dL_law_641 ?_
    refine lv_topi (fun y43 ey44 => ?_)
    have b45 : y3 = y43 := by rw [ey44, ey4]
    subst b45
    refine lv_aload_n hx hb dL_law_642 rfl (lv_at hl 3 rfl) ?_
    refine lv_iload_n hx hb dL_law_643 rfl (lv_at hl 0 rfl) ?_
    refine lv_iconst (v := 3) hx hb dL_law_644 (by decide) ?_
    refine lv_iadd hx hb dL_law_645 ?_
    refine va_sld hx hb hX hbl hbA hZ.2.1 (hk_ix hi0 hi1 hL (by decide) (by decide)) dL_law_646 ?_
    refine lv_topi (fun y46 ey47 => ?_)
    have b48 : y5 = y46 := by rw [ey47, ey6]
    subst b48
    refine lv_aload_n hx hb dL_law_647 rfl (lv_at hl 3 rfl) ?_
    refine lv_iload_n hx hb dL_law_648 rfl (lv_at hl 0 rfl) ?_
    refine lv_iconst (v := 4) hx hb dL_law_649 (by decide) ?_
    refine lv_iadd hx hb dL_law_650 ?_
    refine va_sld hx hb hX hbl hbA hZ.2.1 (hk_ix hi0 hi1 hL (by decide) (by decide)) dL_law_651 ?_
    refine lv_topi (fun y49 ey50 => ?_)
    have b51 : y7 = y49 := by rw [ey50, ey8]
    subst b51
    have fx52 : V10 (mo) = some (.inr (13, hm_o q (m_tp) (m_sz) (m_fr) (m_bh) (m_hd) (m_ft) (m_fa) (m_le) (m_fo) (m_as) (m_fd) (m_bc) (m_bg) (m_bs) (m_be) (m_b0) (m_b1) (m_cm) (m_hc))) := (fr15 (mo) (hq_tne ty20 ty1 (by simp)) (hq_tne ty20 ty5 (by simp)) (by omega) (by omega) (hq_tne ty20 ty7 (by simp)) (hq_tne ty20 ty8 (by simp)) (hq_tne ty20 ty9 (by simp)) (hq_tne ty20 ty10 (by simp)) (by omega) (hq_tne ty20 ty11 (by simp)) (by omega) (hq_tne ty20 ty12 (by simp)) (by omega) (hq_tne ty20 ty13 (by simp)) (hq_tne ty20 ty14 (by simp)) (hq_tne ty20 ty15 (by simp)) (by omega) ⟨_, ty20, by decide, by decide, by decide, by decide⟩).trans (ho_m)
    have fx53 : V10 (q + 20) = some (.inl (cs 0, 4000, .inl (tg1))) := (fr15 (q + 20) (hq_tne (hr_20 hR) ty1 (by simp)) (hq_tne (hr_20 hR) ty5 (by simp)) (by omega) (by omega) (hq_tne (hr_20 hR) ty7 (by simp)) (hq_tne (hr_20 hR) ty8 (by simp)) (hq_tne (hr_20 hR) ty9 (by simp)) (hq_tne (hr_20 hR) ty10 (by simp)) (by omega) (hq_tne (hr_20 hR) ty11 (by simp)) (by omega) (hq_tne (hr_20 hR) ty12 (by simp)) (by omega) (hq_tne (hr_20 hR) ty13 (by simp)) (hq_tne (hr_20 hR) ty14 (by simp)) (hq_tne (hr_20 hR) ty15 (by simp)) (by omega) ⟨_, (hr_20 hR), by decide, by decide, by decide, by decide⟩).trans (htg1)
    have fx54 : V10 (q + 44) = some (.inl (cs 1, 2, .inl (wh9))) := (fr15 (q + 44) (hq_tne (hr_44 hR) ty1 (by simp)) (hq_tne (hr_44 hR) ty5 (by simp)) (by omega) (by omega) (hq_tne (hr_44 hR) ty7 (by simp)) (hq_tne (hr_44 hR) ty8 (by simp)) (hq_tne (hr_44 hR) ty9 (by simp)) (hq_tne (hr_44 hR) ty10 (by simp)) (by omega) (hq_tne (hr_44 hR) ty11 (by simp)) (by omega) (hq_tne (hr_44 hR) ty12 (by simp)) (by omega) (hq_tne (hr_44 hR) ty13 (by simp)) (hq_tne (hr_44 hR) ty14 (by simp)) (hq_tne (hr_44 hR) ty15 (by simp)) (by omega) ⟨_, (hr_44 hR), by decide, by decide, by decide, by decide⟩).trans (hch4)
    have fx55 : V10 (q + 45) = some (.inl (cs 1, 2, .inl (mi9))) := (fr15 (q + 45) (hq_tne (hr_45 hR) ty1 (by simp)) (hq_tne (hr_45 hR) ty5 (by simp)) (by omega) (by omega) (hq_tne (hr_45 hR) ty7 (by simp)) (hq_tne (hr_45 hR) ty8 (by simp)) (hq_tne (hr_45 hR) ty9 (by simp)) (hq_tne (hr_45 hR) ty10 (by simp)) (by omega) (hq_tne (hr_45 hR) ty11 (by simp)) (by omega) (hq_tne (hr_45 hR) ty12 (by simp)) (by omega) (hq_tne (hr_45 hR) ty13 (by simp)) (hq_tne (hr_45 hR) ty14 (by simp)) (hq_tne (hr_45 hR) ty15 (by simp)) (by omega) ⟨_, (hr_45 hR), by decide, by decide, by decide, by decide⟩).trans (hch5)
    have fx56 : V10 (q + 46) = some (.inl (cs 1, 2, .inl (ta9))) := (fr15 (q + 46) (hq_tne (hr_46 hR) ty1 (by simp)) (hq_tne (hr_46 hR) ty5 (by simp)) (by omega) (by omega) (hq_tne (hr_46 hR) ty7 (by simp)) (hq_tne (hr_46 hR) ty8 (by simp)) (hq_tne (hr_46 hR) ty9 (by simp)) (hq_tne (hr_46 hR) ty10 (by simp)) (by omega) (hq_tne (hr_46 hR) ty11 (by simp)) (by omega) (hq_tne (hr_46 hR) ty12 (by simp)) (by omega) (hq_tne (hr_46 hR) ty13 (by simp)) (hq_tne (hr_46 hR) ty14 (by simp)) (hq_tne (hr_46 hR) ty15 (by simp)) (by omega) ⟨_, (hr_46 hR), by decide, by decide, by decide, by decide⟩).trans (hch6)
    have pk57 := hAR0.keep (fun x7 (hx7 : q ≤ x7 ∧ x7 < q + 19) => fr15 x7 (by omega) (by omega) (by omega) (by omega) (by omega) (by omega) (by omega) (by omega) (by omega) (by omega) (by omega) (by omega) (by omega) (by omega) (by omega) (by omega) (by omega) (by obtain ⟨t9, h91, h92⟩ := hT2.2.2.2 x7 (by unfold hk_In; omega); unfold hk_gr at h92; exact ⟨t9, h91, by omega, by omega, by omega, by omega⟩))
    refine hp_calli (hp_runV (As := [.int (y1), .int (y3), .int (y5), .int (y7)]) (rest := []) hx hb hml hown hts (y_answer l D cs B G V10 n hP.1 (q) (mo) (wb) (nb) (bk) (w) (rh) (m_tp) (m_sz) (m_fr) (m_bh) (m_hd) (m_ft) (m_fa) (m_le) (m_fo) (m_as) (m_fd) (m_bc) (m_bg) (m_bs) (m_be) (m_b0) (m_b1) (m_cm) (m_hc) (y1) (y3) (y5) (y7) (wh9) (mi9) (ta9) (tg1)  fx52 fx53 fx54 fx55 fx56 pk57 hR ty20 (by omega) hT2 hBm hgood hgood2 hocb hok (by omega) hz4 (by omega) (by omega) (by omega) (by omega) (by omega) (by omega) (by omega) (by omega)) hZ fx52 cv_L_78 rfl rfl ⟨Nat.le_of_ble_eq_true rfl, Nat.le_of_ble_eq_true rfl⟩ rfl hl.1 rfl (Nat.le_of_ble_eq_true rfl) dL_law_652 ⟨(Nat.le_of_ble_eq_true rfl), (Nat.le_of_ble_eq_true rfl)⟩) hZ (fun r61 V58 n59 _ _ hw60 hZ => ?_)
    obtain ⟨rfl, hq62, fr63, z64, z65, z66, z67, z68, z69, z70, z71, z72, z73, z74, z75, u76, u77, u78, ho79, ho80, ho81, ho82, hp83, hp84, hp85⟩ := hw60
    have b86 := hq_rng z64
    have b87 := hq_rng z65
    have b88 := hq_rng z66
    have b89 := hq_rng z67
    have b90 := hq_rng z68
    have b91 := hq_rng z69
    have b92 := hq_rng z70
    have b93 := hq_rng z71
    have b94 := hq_rng z72
    have b95 := hq_rng z73
    have b96 := hq_rng z74
    have b97 := hq_rng z75
    have hP := hP.trans hq62 (fun _ h => Bool.noConfusion h)
    have hf98 := hq_rg hP.1 (hr_44 hR) ho80
    have hf99 := hq_rg hP.1 (hr_45 hR) ho81
    have hf100 := hq_rg hP.1 (hr_46 hR) ho82
    have b101 := hq_rng r61
    have b102 := hp84
    have b103 := hp85
    refine lv_pop hx hb dL_law_655 rfl ?_
    refine lv_goto (tgt := 761) hx hb dL_law_656 (by decide) ?_
    have fx104 : V58 (a) = some (.inr (11, [.ref (nb), .ref (nb + 2), .ref (nb + 5), .ref (nb + 46), .ref (nb + 50), .ref (nb + 62), .ref (nb + 87), .int (c_fs), .ref (nb + 88), .ref (nb + 465)])) := (fr63 (a) (hq_tne ty0 ty20 (by simp)) (hq_tne ty0 (hr_21 hR) (by simp)) (hq_tne ty0 (hr_22 hR) (by simp)) (hq_tne ty0 (hr_24 hR) (by simp)) (hq_tne ty0 (hr_23 hR) (by simp)) (hq_tne ty0 (hr_25 hR) (by simp)) (hq_tne ty0 (hr_28 hR) (by simp)) (hq_tne ty0 (hr_29 hR) (by simp)) (hq_tne ty0 (hr_30 hR) (by simp)) (hq_tne ty0 (hr_37 hR) (by simp)) (hq_tne ty0 (hr_44 hR) (by simp)) (hq_tne ty0 (hr_45 hR) (by simp)) (hq_tne ty0 (hr_46 hR) (by simp)) ⟨_, ty0, by decide, by decide, by decide, by decide, by decide⟩).trans (ho24)
    have fx105 : V58 (nb + 2) = some (.inr (7, [.int (q_fk), .int (q_fp), q_tx, q_ou, .int (q_nx), .int (q_tk), .int (q_st), .ref (nb + 3)])) := (fr63 (nb + 2) (hq_tne ty3 ty20 (by simp)) (hq_tne ty3 (hr_21 hR) (by simp)) (hq_tne ty3 (hr_22 hR) (by simp)) (hq_tne ty3 (hr_24 hR) (by simp)) (hq_tne ty3 (hr_23 hR) (by simp)) (hq_tne ty3 (hr_25 hR) (by simp)) (hq_tne ty3 (hr_28 hR) (by simp)) (hq_tne ty3 (hr_29 hR) (by simp)) (hq_tne ty3 (hr_30 hR) (by simp)) (hq_tne ty3 (hr_37 hR) (by simp)) (hq_tne ty3 (hr_44 hR) (by simp)) (hq_tne ty3 (hr_45 hR) (by simp)) (hq_tne ty3 (hr_46 hR) (by simp)) ⟨_, ty3, by decide, by decide, by decide, by decide, by decide⟩).trans ((fr15 (nb + 2) (hq_tne ty3 ty1 (by simp)) (hq_tne ty3 ty5 (by simp)) (hq_ne nb 2 44 (by decide)) (hq_ne nb 2 45 (by decide)) (hq_tne ty3 ty7 (by simp)) (hq_tne ty3 ty8 (by simp)) (hq_tne ty3 ty9 (by simp)) (hq_tne ty3 ty10 (by simp)) (hq_ne nb 2 54 (by decide)) (hq_tne ty3 ty11 (by simp)) (hq_ne nb 2 56 (by decide)) (hq_tne ty3 ty12 (by simp)) (hq_ne nb 2 58 (by decide)) (hq_tne ty3 ty13 (by simp)) (hq_tne ty3 ty14 (by simp)) (hq_tne ty3 ty15 (by simp)) (by omega) ⟨_, ty3, by decide, by decide, by decide, by decide⟩).trans (ho_p))
    have fx106 : V58 (nb + 50) = some (.inr (1, [.ref (nb + 51), .ref (nb + 52), .int (z16), .ref (nb + 53), .ref (nb + 55), .ref (nb + 57), u18, u19, u20, .int (z17), .ref (nb + 59), .ref (nb + 60), .ref (nb + 61)])) := (fr63 (nb + 50) (hq_tne ty7 ty20 (by simp)) (hq_tne ty7 (hr_21 hR) (by simp)) (hq_tne ty7 (hr_22 hR) (by simp)) (hq_tne ty7 (hr_24 hR) (by simp)) (hq_tne ty7 (hr_23 hR) (by simp)) (hq_tne ty7 (hr_25 hR) (by simp)) (hq_tne ty7 (hr_28 hR) (by simp)) (hq_tne ty7 (hr_29 hR) (by simp)) (hq_tne ty7 (hr_30 hR) (by simp)) (hq_tne ty7 (hr_37 hR) (by simp)) (hq_tne ty7 (hr_44 hR) (by simp)) (hq_tne ty7 (hr_45 hR) (by simp)) (hq_tne ty7 (hr_46 hR) (by simp)) ⟨_, ty7, by decide, by decide, by decide, by decide, by decide⟩).trans (ho26)
    have fx107 : V58 (nb) = some (.inr (9, [.ref (nb + 1), .int (0)])) := (fr63 (nb) (hq_tne ty1 ty20 (by simp)) (hq_tne ty1 (hr_21 hR) (by simp)) (hq_tne ty1 (hr_22 hR) (by simp)) (hq_tne ty1 (hr_24 hR) (by simp)) (hq_tne ty1 (hr_23 hR) (by simp)) (hq_tne ty1 (hr_25 hR) (by simp)) (hq_tne ty1 (hr_28 hR) (by simp)) (hq_tne ty1 (hr_29 hR) (by simp)) (hq_tne ty1 (hr_30 hR) (by simp)) (hq_tne ty1 (hr_37 hR) (by simp)) (hq_tne ty1 (hr_44 hR) (by simp)) (hq_tne ty1 (hr_45 hR) (by simp)) (hq_tne ty1 (hr_46 hR) (by simp)) ⟨_, ty1, by decide, by decide, by decide, by decide, by decide⟩).trans (ho25)
    have hl108 : (0 : Int32).toInt = 0 := by decide
    have hkx : ∀ x, hk_In nb q x → V58 x = V9 x := fun x7 hx7 => by unfold hk_In at hx7; exact (fr63 x7 (by omega) (by omega) (by omega) (by omega) (by omega) (by omega) (by omega) (by omega) (by omega) (by omega) (by omega) (by omega) (by omega) (by obtain ⟨t9, h91, h92⟩ := hT2.2.2.2 x7 (by unfold hk_In; omega); unfold hk_gr at h92; exact ⟨t9, h91, by omega, by omega, by omega, by omega, by omega⟩)).trans (fr15 x7 (by omega) (by omega) (by omega) (by omega) (by omega) (by omega) (by omega) (by omega) (by omega) (by omega) (by omega) (by omega) (by omega) (by omega) (by omega) (by omega) (by omega) (by obtain ⟨t9, h91, h92⟩ := hT2.2.2.2 x7 (by unfold hk_In; omega); unfold hk_gr at h92; exact ⟨t9, h91, by omega, by omega, by omega, by omega⟩))
    have hE9 : hk_E cs nb q V58 (nb + 88) q_fk q_fp m_ft m_fa := hE.keep0 (Or.inl rfl) hkx hP.1 ty2 (hr_20 hR) fx107 (by omega)
    have fx109 : V58 (nb + 59) = some (.inl (cs 1, 2, .inl (u21))) := (fr63 (nb + 59) (hq_tne ty13 ty20 (by simp)) (hq_tne ty13 (hr_21 hR) (by simp)) (hq_tne ty13 (hr_22 hR) (by simp)) (hq_tne ty13 (hr_24 hR) (by simp)) (hq_tne ty13 (hr_23 hR) (by simp)) (hq_tne ty13 (hr_25 hR) (by simp)) (hq_tne ty13 (hr_28 hR) (by simp)) (hq_tne ty13 (hr_29 hR) (by simp)) (hq_tne ty13 (hr_30 hR) (by simp)) (hq_tne ty13 (hr_37 hR) (by simp)) (hq_tne ty13 (hr_44 hR) (by simp)) (hq_tne ty13 (hr_45 hR) (by simp)) (hq_tne ty13 (hr_46 hR) (by simp)) ⟨_, ty13, by decide, by decide, by decide, by decide, by decide⟩).trans (ho27)
    have fx110 : V58 (nb + 60) = some (.inl (cs 1, 2, .inl (u22))) := (fr63 (nb + 60) (hq_tne ty14 ty20 (by simp)) (hq_tne ty14 (hr_21 hR) (by simp)) (hq_tne ty14 (hr_22 hR) (by simp)) (hq_tne ty14 (hr_24 hR) (by simp)) (hq_tne ty14 (hr_23 hR) (by simp)) (hq_tne ty14 (hr_25 hR) (by simp)) (hq_tne ty14 (hr_28 hR) (by simp)) (hq_tne ty14 (hr_29 hR) (by simp)) (hq_tne ty14 (hr_30 hR) (by simp)) (hq_tne ty14 (hr_37 hR) (by simp)) (hq_tne ty14 (hr_44 hR) (by simp)) (hq_tne ty14 (hr_45 hR) (by simp)) (hq_tne ty14 (hr_46 hR) (by simp)) ⟨_, ty14, by decide, by decide, by decide, by decide, by decide⟩).trans (ho28)
    have fx111 : V58 (nb + 61) = some (.inl (cs 1, 2, .inl (u23))) := (fr63 (nb + 61) (hq_tne ty15 ty20 (by simp)) (hq_tne ty15 (hr_21 hR) (by simp)) (hq_tne ty15 (hr_22 hR) (by simp)) (hq_tne ty15 (hr_24 hR) (by simp)) (hq_tne ty15 (hr_23 hR) (by simp)) (hq_tne ty15 (hr_25 hR) (by simp)) (hq_tne ty15 (hr_28 hR) (by simp)) (hq_tne ty15 (hr_29 hR) (by simp)) (hq_tne ty15 (hr_30 hR) (by simp)) (hq_tne ty15 (hr_37 hR) (by simp)) (hq_tne ty15 (hr_44 hR) (by simp)) (hq_tne ty15 (hr_45 hR) (by simp)) (hq_tne ty15 (hr_46 hR) (by simp)) ⟨_, ty15, by decide, by decide, by decide, by decide, by decide⟩).trans (ho29)
    have fx112 : V58 (nb + 7) = some (.inl (cs 4, 4, .inr (.inr (.inr (.inr (gf9)))))) := (fr63 (nb + 7) (hq_tne hT3.2.1 ty20 (by simp)) (hq_tne hT3.2.1 (hr_21 hR) (by simp)) (hq_tne hT3.2.1 (hr_22 hR) (by simp)) (hq_tne hT3.2.1 (hr_24 hR) (by simp)) (hq_tne hT3.2.1 (hr_23 hR) (by simp)) (hq_tne hT3.2.1 (hr_25 hR) (by simp)) (hq_tne hT3.2.1 (hr_28 hR) (by simp)) (hq_tne hT3.2.1 (hr_29 hR) (by simp)) (hq_tne hT3.2.1 (hr_30 hR) (by simp)) (hq_tne hT3.2.1 (hr_37 hR) (by simp)) (hq_tne hT3.2.1 (hr_44 hR) (by simp)) (hq_tne hT3.2.1 (hr_45 hR) (by simp)) (hq_tne hT3.2.1 (hr_46 hR) (by simp)) ⟨_, hT3.2.1, by decide, by decide, by decide, by decide, by decide⟩).trans (ho30)
    have hC9 : hk_CH cs nb q V58 z17 z75 z74 := by
      rcases hp31 with ⟨z1, z2⟩ | ⟨z1, z2, z3, z4, z5⟩
      · rcases hp83 with ⟨y1, y2, y3⟩ | ⟨y1, -⟩
        · exact ⟨_, _, _, _, _, _, _, fx109, fx110, fx111, ho80, ho81, ho82, fx112, hgf9, Or.inr ⟨y2, _, z1.pos, sp_TL_le z1.2.2.2, z2, y3⟩⟩
        · exact absurd z1 y1
      · rcases hp83 with ⟨y1, -⟩ | ⟨y1, y2, y3, y4, y5, y6⟩
        · exact absurd y1 z1
        · exact ⟨_, _, _, _, _, _, _, fx109, fx110, fx111, ho80, ho81, ho82, fx112, hgf9, by rw [z2, z3, z4, z5, y2, y3, y4, y5, y6]; exact hch9⟩
    obtain ⟨-, -, ⟨wb9, bk9, rh9, hAR9, hBm9, hgood9, hBx9⟩, hS09, hS19, -⟩ := id hE9
    have hinv9 : hk_InvX cs G a nb mo q V58 := ⟨hP.1, _, _, _, _, _, _, _, _, _, _, _, _, _, _, _, _, _, _, _, _, _, _, _, _, _, _, _, _, _, _, _, _, _, _, _, fx104, Or.inl ⟨rfl, rfl⟩, by omega, (hq_J.of hBx9 hS09.2.1 hgood9.1), fx105, fx106, by omega, by omega, fx107, ho79, by omega, by omega, by omega, by omega, by omega, by omega, by omega, by omega, by omega, (hm_VQ.of hAR9 hBm9 hgood9.1), (by obtain ⟨fs9, h9⟩ := hst; exact ⟨fs9, ((fr63 (q + 19) (hq_tne (hr_19 hR) ty20 (by simp)) (hq_tne (hr_19 hR) (hr_21 hR) (by simp)) (hq_tne (hr_19 hR) (hr_22 hR) (by simp)) (hq_tne (hr_19 hR) (hr_24 hR) (by simp)) (hq_tne (hr_19 hR) (hr_23 hR) (by simp)) (hq_tne (hr_19 hR) (hr_25 hR) (by simp)) (hq_tne (hr_19 hR) (hr_28 hR) (by simp)) (hq_tne (hr_19 hR) (hr_29 hR) (by simp)) (hq_tne (hr_19 hR) (hr_30 hR) (by simp)) (hq_tne (hr_19 hR) (hr_37 hR) (by simp)) (hq_tne (hr_19 hR) (hr_44 hR) (by simp)) (hq_tne (hr_19 hR) (hr_45 hR) (by simp)) (hq_tne (hr_19 hR) (hr_46 hR) (by simp)) ⟨_, (hr_19 hR), by decide, by decide, by decide, by decide, by decide⟩).trans (fr15 (q + 19) (hq_tne (hr_19 hR) ty1 (by simp)) (hq_tne (hr_19 hR) ty5 (by simp)) (by omega) (by omega) (hq_tne (hr_19 hR) ty7 (by simp)) (hq_tne (hr_19 hR) ty8 (by simp)) (hq_tne (hr_19 hR) ty9 (by simp)) (hq_tne (hr_19 hR) ty10 (by simp)) (by omega) (hq_tne (hr_19 hR) ty11 (by simp)) (by omega) (hq_tne (hr_19 hR) ty12 (by simp)) (by omega) (hq_tne (hr_19 hR) ty13 (by simp)) (hq_tne (hr_19 hR) ty14 (by simp)) (hq_tne (hr_19 hR) ty15 (by simp)) (by omega) ⟨_, (hr_19 hR), by decide, by decide, by decide, by decide⟩)).trans h9⟩), hE9, hC9⟩
    exact kk _ _ _ ls hZ hinv9 (lv_sub hl [0, 1, 2, 3] rfl)
  · obtain ⟨hE0, ⟨w, hTx, hTm, hoc⟩, ⟨wb, bk, rh, hAR0, hBm, ⟨hgood, hgood2, hocb⟩, hBx⟩, hS0, hS1, hTS⟩ := id hE
    obtain ⟨hz1, hz2, tg0, htg0, hz3⟩ := hx_TP.opn hTx ho_n
    obtain ⟨tg1, htg1, hok, hz4⟩ := id hTm
    obtain ⟨hm1, hm2, hm3, -⟩ := id hBm
    refine lv_aload_n hx hb dL_law_606 rfl (lv_at hl 2 rfl) ?_
    refine lv_aload_n hx hb dL_law_607 rfl (lv_at hl 3 rfl) ?_
    refine lv_iload_n hx hb dL_law_608 rfl (lv_at hl 0 rfl) ?_
    refine lv_iconst (v := 1) hx hb dL_law_609 (by decide) ?_
    refine lv_iadd hx hb dL_law_610 ?_
    refine va_sld hx hb hX hbl hbA hZ.2.1 (hk_ix hi0 hi1 hL (by decide) (by decide)) dL_law_611 ?_
    refine lv_topi (fun y1 ey2 => ?_)
    refine lv_aload_n hx hb dL_law_612 rfl (lv_at hl 3 rfl) ?_
    refine lv_iload_n hx hb dL_law_613 rfl (lv_at hl 0 rfl) ?_
    refine lv_iconst (v := 2) hx hb dL_law_614 (by decide) ?_
    refine lv_iadd hx hb dL_law_615 ?_
    refine va_sld hx hb hX hbl hbA hZ.2.1 (hk_ix hi0 hi1 hL (by decide) (by decide)) dL_law_616 ?_
    refine lv_topi (fun y3 ey4 => ?_)
    refine lv_aload_n hx hb dL_law_617 rfl (lv_at hl 3 rfl) ?_
    refine lv_iload_n hx hb dL_law_618 rfl (lv_at hl 0 rfl) ?_
    refine lv_iconst (v := 3) hx hb dL_law_619 (by decide) ?_
    refine lv_iadd hx hb dL_law_620 ?_
    refine va_sld hx hb hX hbl hbA hZ.2.1 (hk_ix hi0 hi1 hL (by decide) (by decide)) dL_law_621 ?_
    refine lv_topi (fun y5 ey6 => ?_)
    refine lv_aload_n hx hb dL_law_622 rfl (lv_at hl 3 rfl) ?_
    refine lv_iload_n hx hb dL_law_623 rfl (lv_at hl 0 rfl) ?_
    refine lv_iconst (v := 4) hx hb dL_law_624 (by decide) ?_
    refine lv_iadd hx hb dL_law_625 ?_
    refine va_sld hx hb hX hbl hbA hZ.2.1 (hk_ix hi0 hi1 hL (by decide) (by decide)) dL_law_626 ?_
    refine lv_topi (fun y7 ey8 => ?_)
    obtain ⟨kk9, mm9, tt9, wh9, mi9, ta9, gf9, hch1, hch2, hch3, hch4, hch5, hch6, hch7, hgf9, hch9⟩ := id hCH
    have hask9 : sp_rp p_z tg0 (sp_tw w) := sp_tw_rp (by omega) hz1 hz3
    refine hp_calli (hp_runV (As := [.int (y1), .int (y3), .int (y5), .int (y7)]) (rest := []) hx hb hml hown hts (x_answer_1 l D cs B G V9 n hP.1 (a) (nb) (nb + 465) (nb + 88) (mo) (q) (wb) (bk) ((sp_tw w)) (y1) (y3) (y5) (y7) (c_fs) (e_fd) (e_sz) (e_bk) (e_an) (e_mk) (p_z) (tg0) (kk9) (mm9) (tt9) (gf9)  ho_a ho_e ho_n htg0 hch1 hch2 hch3 hch7  hT hT2 hT3 hak rfl hBx hS1.2.1 hgood hgood2 hBm.g8 hask9 (by omega) hgf9 (by omega) (by omega)) hZ ho_a cv_L_74 rfl rfl ⟨Nat.le_of_ble_eq_true rfl, Nat.le_of_ble_eq_true rfl⟩ rfl hl.1 rfl (Nat.le_of_ble_eq_true rfl) dL_law_627 ⟨(Nat.le_of_ble_eq_true rfl), (Nat.le_of_ble_eq_true rfl)⟩) hZ (fun r13 V10 n11 _ _ hw12 hZ => ?_)
    obtain ⟨rfl, hq14, fr15, z16, z17, u18, u19, u20, u21, u22, u23, ho24, ho25, ho26, ho27, ho28, ho29, ho30, hp31, hp32⟩ := hw12
    have b33 := hq_rng z16
    have b34 := hq_rng z17
    have hP := hP.trans hq14 (fun _ h => Bool.noConfusion h)
    have hf35 := hq_rg2 hP.1 ty13 ho27
    have hf36 := hq_rg2 hP.1 ty14 ho28
    have hf37 := hq_rg2 hP.1 ty15 ho29
    have b38 := hq_rng r13
    have b39 := hp32
    refine lv_pop hx hb dL_law_630 rfl ?_
    refine lv_aload_n hx hb dL_law_631 rfl (lv_at hl 1 rfl) ?_
    refine lv_aload_n hx hb dL_law_632 rfl (lv_at hl 3 rfl) ?_
    refine lv_iload_n hx hb dL_law_633 rfl (lv_at hl 0 rfl) ?_
    refine lv_iconst (v := 1) hx hb dL_law_634 (by decide) ?_
    refine lv_iadd hx hb dL_law_635 ?_
    refine va_sld hx hb hX hbl hbA hZ.2.1 (hk_ix hi0 hi1 hL (by decide) (by decide)) dL_law_636 ?_
    refine lv_topi (fun y40 ey41 => ?_)
    have b42 : y1 = y40 := by rw [ey41, ey2]
    subst b42
    refine lv_aload_n hx hb dL_law_637 rfl (lv_at hl 3 rfl) ?_
    refine lv_iload_n hx hb dL_law_638 rfl (lv_at hl 0 rfl) ?_
    refine lv_iconst (v := 2) hx hb dL_law_639 (by decide) ?_
    refine lv_iadd hx hb dL_law_640 ?_
    refine va_sld hx hb hX hbl hbA hZ.2.1 (hk_ix hi0 hi1 hL (by decide) (by decide)) dL_law_641 ?_
    refine lv_topi (fun y43 ey44 => ?_)
    have b45 : y3 = y43 := by rw [ey44, ey4]
    subst b45
    refine lv_aload_n hx hb dL_law_642 rfl (lv_at hl 3 rfl) ?_
    refine lv_iload_n hx hb dL_law_643 rfl (lv_at hl 0 rfl) ?_
    refine lv_iconst (v := 3) hx hb dL_law_644 (by decide) ?_
    refine lv_iadd hx hb dL_law_645 ?_
    refine va_sld hx hb hX hbl hbA hZ.2.1 (hk_ix hi0 hi1 hL (by decide) (by decide)) dL_law_646 ?_
    refine lv_topi (fun y46 ey47 => ?_)
    have b48 : y5 = y46 := by rw [ey47, ey6]
    subst b48
    refine lv_aload_n hx hb dL_law_647 rfl (lv_at hl 3 rfl) ?_
    refine lv_iload_n hx hb dL_law_648 rfl (lv_at hl 0 rfl) ?_
    refine lv_iconst (v := 4) hx hb dL_law_649 (by decide) ?_
    refine lv_iadd hx hb dL_law_650 ?_
    refine va_sld hx hb hX hbl hbA hZ.2.1 (hk_ix hi0 hi1 hL (by decide) (by decide)) dL_law_651 ?_
    refine lv_topi (fun y49 ey50 => ?_)
    have b51 : y7 = y49 := by rw [ey50, ey8]
    subst b51
    have fx52 : V10 (mo) = some (.inr (13, hm_o q (m_tp) (m_sz) (m_fr) (m_bh) (m_hd) (m_ft) (m_fa) (m_le) (m_fo) (m_as) (m_fd) (m_bc) (m_bg) (m_bs) (m_be) (m_b0) (m_b1) (m_cm) (m_hc))) := (fr15 (mo) (hq_tne ty20 ty1 (by simp)) (hq_tne ty20 ty5 (by simp)) (by omega) (by omega) (hq_tne ty20 ty7 (by simp)) (hq_tne ty20 ty8 (by simp)) (hq_tne ty20 ty9 (by simp)) (hq_tne ty20 ty10 (by simp)) (by omega) (hq_tne ty20 ty11 (by simp)) (by omega) (hq_tne ty20 ty12 (by simp)) (by omega) (hq_tne ty20 ty13 (by simp)) (hq_tne ty20 ty14 (by simp)) (hq_tne ty20 ty15 (by simp)) (by omega) ⟨_, ty20, by decide, by decide, by decide, by decide⟩).trans (ho_m)
    have fx53 : V10 (q + 20) = some (.inl (cs 0, 4000, .inl (tg1))) := (fr15 (q + 20) (hq_tne (hr_20 hR) ty1 (by simp)) (hq_tne (hr_20 hR) ty5 (by simp)) (by omega) (by omega) (hq_tne (hr_20 hR) ty7 (by simp)) (hq_tne (hr_20 hR) ty8 (by simp)) (hq_tne (hr_20 hR) ty9 (by simp)) (hq_tne (hr_20 hR) ty10 (by simp)) (by omega) (hq_tne (hr_20 hR) ty11 (by simp)) (by omega) (hq_tne (hr_20 hR) ty12 (by simp)) (by omega) (hq_tne (hr_20 hR) ty13 (by simp)) (hq_tne (hr_20 hR) ty14 (by simp)) (hq_tne (hr_20 hR) ty15 (by simp)) (by omega) ⟨_, (hr_20 hR), by decide, by decide, by decide, by decide⟩).trans (htg1)
    have fx54 : V10 (q + 44) = some (.inl (cs 1, 2, .inl (wh9))) := (fr15 (q + 44) (hq_tne (hr_44 hR) ty1 (by simp)) (hq_tne (hr_44 hR) ty5 (by simp)) (by omega) (by omega) (hq_tne (hr_44 hR) ty7 (by simp)) (hq_tne (hr_44 hR) ty8 (by simp)) (hq_tne (hr_44 hR) ty9 (by simp)) (hq_tne (hr_44 hR) ty10 (by simp)) (by omega) (hq_tne (hr_44 hR) ty11 (by simp)) (by omega) (hq_tne (hr_44 hR) ty12 (by simp)) (by omega) (hq_tne (hr_44 hR) ty13 (by simp)) (hq_tne (hr_44 hR) ty14 (by simp)) (hq_tne (hr_44 hR) ty15 (by simp)) (by omega) ⟨_, (hr_44 hR), by decide, by decide, by decide, by decide⟩).trans (hch4)
    have fx55 : V10 (q + 45) = some (.inl (cs 1, 2, .inl (mi9))) := (fr15 (q + 45) (hq_tne (hr_45 hR) ty1 (by simp)) (hq_tne (hr_45 hR) ty5 (by simp)) (by omega) (by omega) (hq_tne (hr_45 hR) ty7 (by simp)) (hq_tne (hr_45 hR) ty8 (by simp)) (hq_tne (hr_45 hR) ty9 (by simp)) (hq_tne (hr_45 hR) ty10 (by simp)) (by omega) (hq_tne (hr_45 hR) ty11 (by simp)) (by omega) (hq_tne (hr_45 hR) ty12 (by simp)) (by omega) (hq_tne (hr_45 hR) ty13 (by simp)) (hq_tne (hr_45 hR) ty14 (by simp)) (hq_tne (hr_45 hR) ty15 (by simp)) (by omega) ⟨_, (hr_45 hR), by decide, by decide, by decide, by decide⟩).trans (hch5)
    have fx56 : V10 (q + 46) = some (.inl (cs 1, 2, .inl (ta9))) := (fr15 (q + 46) (hq_tne (hr_46 hR) ty1 (by simp)) (hq_tne (hr_46 hR) ty5 (by simp)) (by omega) (by omega) (hq_tne (hr_46 hR) ty7 (by simp)) (hq_tne (hr_46 hR) ty8 (by simp)) (hq_tne (hr_46 hR) ty9 (by simp)) (hq_tne (hr_46 hR) ty10 (by simp)) (by omega) (hq_tne (hr_46 hR) ty11 (by simp)) (by omega) (hq_tne (hr_46 hR) ty12 (by simp)) (by omega) (hq_tne (hr_46 hR) ty13 (by simp)) (hq_tne (hr_46 hR) ty14 (by simp)) (hq_tne (hr_46 hR) ty15 (by simp)) (by omega) ⟨_, (hr_46 hR), by decide, by decide, by decide, by decide⟩).trans (hch6)
    have pk57 := hAR0.keep (fun x7 (hx7 : q ≤ x7 ∧ x7 < q + 19) => fr15 x7 (by omega) (by omega) (by omega) (by omega) (by omega) (by omega) (by omega) (by omega) (by omega) (by omega) (by omega) (by omega) (by omega) (by omega) (by omega) (by omega) (by omega) (by obtain ⟨t9, h91, h92⟩ := hT2.2.2.2 x7 (by unfold hk_In; omega); unfold hk_gr at h92; exact ⟨t9, h91, by omega, by omega, by omega, by omega⟩))
    refine hp_calli (hp_runV (As := [.int (y1), .int (y3), .int (y5), .int (y7)]) (rest := []) hx hb hml hown hts (y_answer l D cs B G V10 n hP.1 (q) (mo) (wb) (nb) (bk) (w) (rh) (m_tp) (m_sz) (m_fr) (m_bh) (m_hd) (m_ft) (m_fa) (m_le) (m_fo) (m_as) (m_fd) (m_bc) (m_bg) (m_bs) (m_be) (m_b0) (m_b1) (m_cm) (m_hc) (y1) (y3) (y5) (y7) (wh9) (mi9) (ta9) (tg1)  fx52 fx53 fx54 fx55 fx56 pk57 hR ty20 (by omega) hT2 hBm hgood hgood2 hocb hok (by omega) hz4 (by omega) (by omega) (by omega) (by omega) (by omega) (by omega) (by omega) (by omega)) hZ fx52 cv_L_78 rfl rfl ⟨Nat.le_of_ble_eq_true rfl, Nat.le_of_ble_eq_true rfl⟩ rfl hl.1 rfl (Nat.le_of_ble_eq_true rfl) dL_law_652 ⟨(Nat.le_of_ble_eq_true rfl), (Nat.le_of_ble_eq_true rfl)⟩) hZ (fun r61 V58 n59 _ _ hw60 hZ => ?_)
    obtain ⟨rfl, hq62, fr63, z64, z65, z66, z67, z68, z69, z70, z71, z72, z73, z74, z75, u76, u77, u78, ho79, ho80, ho81, ho82, hp83, hp84, hp85⟩ := hw60
    have b86 := hq_rng z64
    have b87 := hq_rng z65
    have b88 := hq_rng z66
    have b89 := hq_rng z67
    have b90 := hq_rng z68
    have b91 := hq_rng z69
    have b92 := hq_rng z70
    have b93 := hq_rng z71
    have b94 := hq_rng z72
    have b95 := hq_rng z73
    have b96 := hq_rng z74
    have b97 := hq_rng z75
    have hP := hP.trans hq62 (fun _ h => Bool.noConfusion h)
    have hf98 := hq_rg hP.1 (hr_44 hR) ho80
    have hf99 := hq_rg hP.1 (hr_45 hR) ho81
    have hf100 := hq_rg hP.1 (hr_46 hR) ho82
    have b101 := hq_rng r61
    have b102 := hp84
    have b103 := hp85
    refine lv_pop hx hb dL_law_655 rfl ?_
    refine lv_goto (tgt := 761) hx hb dL_law_656 (by decide) ?_
    have fx104 : V58 (a) = some (.inr (11, [.ref (nb), .ref (nb + 2), .ref (nb + 5), .ref (nb + 46), .ref (nb + 50), .ref (nb + 62), .ref (nb + 87), .int (c_fs), .ref (nb + 465), .ref (nb + 88)])) := (fr63 (a) (hq_tne ty0 ty20 (by simp)) (hq_tne ty0 (hr_21 hR) (by simp)) (hq_tne ty0 (hr_22 hR) (by simp)) (hq_tne ty0 (hr_24 hR) (by simp)) (hq_tne ty0 (hr_23 hR) (by simp)) (hq_tne ty0 (hr_25 hR) (by simp)) (hq_tne ty0 (hr_28 hR) (by simp)) (hq_tne ty0 (hr_29 hR) (by simp)) (hq_tne ty0 (hr_30 hR) (by simp)) (hq_tne ty0 (hr_37 hR) (by simp)) (hq_tne ty0 (hr_44 hR) (by simp)) (hq_tne ty0 (hr_45 hR) (by simp)) (hq_tne ty0 (hr_46 hR) (by simp)) ⟨_, ty0, by decide, by decide, by decide, by decide, by decide⟩).trans (ho24)
    have fx105 : V58 (nb + 2) = some (.inr (7, [.int (q_fk), .int (q_fp), q_tx, q_ou, .int (q_nx), .int (q_tk), .int (q_st), .ref (nb + 3)])) := (fr63 (nb + 2) (hq_tne ty3 ty20 (by simp)) (hq_tne ty3 (hr_21 hR) (by simp)) (hq_tne ty3 (hr_22 hR) (by simp)) (hq_tne ty3 (hr_24 hR) (by simp)) (hq_tne ty3 (hr_23 hR) (by simp)) (hq_tne ty3 (hr_25 hR) (by simp)) (hq_tne ty3 (hr_28 hR) (by simp)) (hq_tne ty3 (hr_29 hR) (by simp)) (hq_tne ty3 (hr_30 hR) (by simp)) (hq_tne ty3 (hr_37 hR) (by simp)) (hq_tne ty3 (hr_44 hR) (by simp)) (hq_tne ty3 (hr_45 hR) (by simp)) (hq_tne ty3 (hr_46 hR) (by simp)) ⟨_, ty3, by decide, by decide, by decide, by decide, by decide⟩).trans ((fr15 (nb + 2) (hq_tne ty3 ty1 (by simp)) (hq_tne ty3 ty5 (by simp)) (hq_ne nb 2 44 (by decide)) (hq_ne nb 2 45 (by decide)) (hq_tne ty3 ty7 (by simp)) (hq_tne ty3 ty8 (by simp)) (hq_tne ty3 ty9 (by simp)) (hq_tne ty3 ty10 (by simp)) (hq_ne nb 2 54 (by decide)) (hq_tne ty3 ty11 (by simp)) (hq_ne nb 2 56 (by decide)) (hq_tne ty3 ty12 (by simp)) (hq_ne nb 2 58 (by decide)) (hq_tne ty3 ty13 (by simp)) (hq_tne ty3 ty14 (by simp)) (hq_tne ty3 ty15 (by simp)) (by omega) ⟨_, ty3, by decide, by decide, by decide, by decide⟩).trans (ho_p))
    have fx106 : V58 (nb + 50) = some (.inr (1, [.ref (nb + 51), .ref (nb + 52), .int (z16), .ref (nb + 53), .ref (nb + 55), .ref (nb + 57), u18, u19, u20, .int (z17), .ref (nb + 59), .ref (nb + 60), .ref (nb + 61)])) := (fr63 (nb + 50) (hq_tne ty7 ty20 (by simp)) (hq_tne ty7 (hr_21 hR) (by simp)) (hq_tne ty7 (hr_22 hR) (by simp)) (hq_tne ty7 (hr_24 hR) (by simp)) (hq_tne ty7 (hr_23 hR) (by simp)) (hq_tne ty7 (hr_25 hR) (by simp)) (hq_tne ty7 (hr_28 hR) (by simp)) (hq_tne ty7 (hr_29 hR) (by simp)) (hq_tne ty7 (hr_30 hR) (by simp)) (hq_tne ty7 (hr_37 hR) (by simp)) (hq_tne ty7 (hr_44 hR) (by simp)) (hq_tne ty7 (hr_45 hR) (by simp)) (hq_tne ty7 (hr_46 hR) (by simp)) ⟨_, ty7, by decide, by decide, by decide, by decide, by decide⟩).trans (ho26)
    have fx107 : V58 (nb) = some (.inr (9, [.ref (nb + 1), .int (0)])) := (fr63 (nb) (hq_tne ty1 ty20 (by simp)) (hq_tne ty1 (hr_21 hR) (by simp)) (hq_tne ty1 (hr_22 hR) (by simp)) (hq_tne ty1 (hr_24 hR) (by simp)) (hq_tne ty1 (hr_23 hR) (by simp)) (hq_tne ty1 (hr_25 hR) (by simp)) (hq_tne ty1 (hr_28 hR) (by simp)) (hq_tne ty1 (hr_29 hR) (by simp)) (hq_tne ty1 (hr_30 hR) (by simp)) (hq_tne ty1 (hr_37 hR) (by simp)) (hq_tne ty1 (hr_44 hR) (by simp)) (hq_tne ty1 (hr_45 hR) (by simp)) (hq_tne ty1 (hr_46 hR) (by simp)) ⟨_, ty1, by decide, by decide, by decide, by decide, by decide⟩).trans (ho25)
    have hl108 : (0 : Int32).toInt = 0 := by decide
    have hkx : ∀ x, hk_In nb q x → V58 x = V9 x := fun x7 hx7 => by unfold hk_In at hx7; exact (fr63 x7 (by omega) (by omega) (by omega) (by omega) (by omega) (by omega) (by omega) (by omega) (by omega) (by omega) (by omega) (by omega) (by omega) (by obtain ⟨t9, h91, h92⟩ := hT2.2.2.2 x7 (by unfold hk_In; omega); unfold hk_gr at h92; exact ⟨t9, h91, by omega, by omega, by omega, by omega, by omega⟩)).trans (fr15 x7 (by omega) (by omega) (by omega) (by omega) (by omega) (by omega) (by omega) (by omega) (by omega) (by omega) (by omega) (by omega) (by omega) (by omega) (by omega) (by omega) (by omega) (by obtain ⟨t9, h91, h92⟩ := hT2.2.2.2 x7 (by unfold hk_In; omega); unfold hk_gr at h92; exact ⟨t9, h91, by omega, by omega, by omega, by omega⟩))
    have hE9 : hk_E cs nb q V58 (nb + 465) q_fk q_fp m_ft m_fa := hE.keep0 (Or.inr rfl) hkx hP.1 ty2 (hr_20 hR) fx107 (by omega)
    have fx109 : V58 (nb + 59) = some (.inl (cs 1, 2, .inl (u21))) := (fr63 (nb + 59) (hq_tne ty13 ty20 (by simp)) (hq_tne ty13 (hr_21 hR) (by simp)) (hq_tne ty13 (hr_22 hR) (by simp)) (hq_tne ty13 (hr_24 hR) (by simp)) (hq_tne ty13 (hr_23 hR) (by simp)) (hq_tne ty13 (hr_25 hR) (by simp)) (hq_tne ty13 (hr_28 hR) (by simp)) (hq_tne ty13 (hr_29 hR) (by simp)) (hq_tne ty13 (hr_30 hR) (by simp)) (hq_tne ty13 (hr_37 hR) (by simp)) (hq_tne ty13 (hr_44 hR) (by simp)) (hq_tne ty13 (hr_45 hR) (by simp)) (hq_tne ty13 (hr_46 hR) (by simp)) ⟨_, ty13, by decide, by decide, by decide, by decide, by decide⟩).trans (ho27)
    have fx110 : V58 (nb + 60) = some (.inl (cs 1, 2, .inl (u22))) := (fr63 (nb + 60) (hq_tne ty14 ty20 (by simp)) (hq_tne ty14 (hr_21 hR) (by simp)) (hq_tne ty14 (hr_22 hR) (by simp)) (hq_tne ty14 (hr_24 hR) (by simp)) (hq_tne ty14 (hr_23 hR) (by simp)) (hq_tne ty14 (hr_25 hR) (by simp)) (hq_tne ty14 (hr_28 hR) (by simp)) (hq_tne ty14 (hr_29 hR) (by simp)) (hq_tne ty14 (hr_30 hR) (by simp)) (hq_tne ty14 (hr_37 hR) (by simp)) (hq_tne ty14 (hr_44 hR) (by simp)) (hq_tne ty14 (hr_45 hR) (by simp)) (hq_tne ty14 (hr_46 hR) (by simp)) ⟨_, ty14, by decide, by decide, by decide, by decide, by decide⟩).trans (ho28)
    have fx111 : V58 (nb + 61) = some (.inl (cs 1, 2, .inl (u23))) := (fr63 (nb + 61) (hq_tne ty15 ty20 (by simp)) (hq_tne ty15 (hr_21 hR) (by simp)) (hq_tne ty15 (hr_22 hR) (by simp)) (hq_tne ty15 (hr_24 hR) (by simp)) (hq_tne ty15 (hr_23 hR) (by simp)) (hq_tne ty15 (hr_25 hR) (by simp)) (hq_tne ty15 (hr_28 hR) (by simp)) (hq_tne ty15 (hr_29 hR) (by simp)) (hq_tne ty15 (hr_30 hR) (by simp)) (hq_tne ty15 (hr_37 hR) (by simp)) (hq_tne ty15 (hr_44 hR) (by simp)) (hq_tne ty15 (hr_45 hR) (by simp)) (hq_tne ty15 (hr_46 hR) (by simp)) ⟨_, ty15, by decide, by decide, by decide, by decide, by decide⟩).trans (ho29)
    have fx112 : V58 (nb + 7) = some (.inl (cs 4, 4, .inr (.inr (.inr (.inr (gf9)))))) := (fr63 (nb + 7) (hq_tne hT3.2.1 ty20 (by simp)) (hq_tne hT3.2.1 (hr_21 hR) (by simp)) (hq_tne hT3.2.1 (hr_22 hR) (by simp)) (hq_tne hT3.2.1 (hr_24 hR) (by simp)) (hq_tne hT3.2.1 (hr_23 hR) (by simp)) (hq_tne hT3.2.1 (hr_25 hR) (by simp)) (hq_tne hT3.2.1 (hr_28 hR) (by simp)) (hq_tne hT3.2.1 (hr_29 hR) (by simp)) (hq_tne hT3.2.1 (hr_30 hR) (by simp)) (hq_tne hT3.2.1 (hr_37 hR) (by simp)) (hq_tne hT3.2.1 (hr_44 hR) (by simp)) (hq_tne hT3.2.1 (hr_45 hR) (by simp)) (hq_tne hT3.2.1 (hr_46 hR) (by simp)) ⟨_, hT3.2.1, by decide, by decide, by decide, by decide, by decide⟩).trans (ho30)
    have hC9 : hk_CH cs nb q V58 z17 z75 z74 := by
      rcases hp31 with ⟨z1, z2⟩ | ⟨z1, z2, z3, z4, z5⟩
      · rcases hp83 with ⟨y1, y2, y3⟩ | ⟨y1, -⟩
        · exact ⟨_, _, _, _, _, _, _, fx109, fx110, fx111, ho80, ho81, ho82, fx112, hgf9, Or.inr ⟨y2, _, z1.pos, sp_TL_le z1.2.2.2, z2, y3⟩⟩
        · exact absurd z1 y1
      · rcases hp83 with ⟨y1, -⟩ | ⟨y1, y2, y3, y4, y5, y6⟩
        · exact absurd y1 z1
        · exact ⟨_, _, _, _, _, _, _, fx109, fx110, fx111, ho80, ho81, ho82, fx112, hgf9, by rw [z2, z3, z4, z5, y2, y3, y4, y5, y6]; exact hch9⟩
    obtain ⟨-, -, ⟨wb9, bk9, rh9, hAR9, hBm9, hgood9, hBx9⟩, hS09, hS19, -⟩ := id hE9
    have hinv9 : hk_InvX cs G a nb mo q V58 := ⟨hP.1, _, _, _, _, _, _, _, _, _, _, _, _, _, _, _, _, _, _, _, _, _, _, _, _, _, _, _, _, _, _, _, _, _, _, _, fx104, Or.inr ⟨rfl, rfl⟩, by omega, (hq_J.of hBx9 hS19.2.1 hgood9.1), fx105, fx106, by omega, by omega, fx107, ho79, by omega, by omega, by omega, by omega, by omega, by omega, by omega, by omega, by omega, (hm_VQ.of hAR9 hBm9 hgood9.1), (by obtain ⟨fs9, h9⟩ := hst; exact ⟨fs9, ((fr63 (q + 19) (hq_tne (hr_19 hR) ty20 (by simp)) (hq_tne (hr_19 hR) (hr_21 hR) (by simp)) (hq_tne (hr_19 hR) (hr_22 hR) (by simp)) (hq_tne (hr_19 hR) (hr_24 hR) (by simp)) (hq_tne (hr_19 hR) (hr_23 hR) (by simp)) (hq_tne (hr_19 hR) (hr_25 hR) (by simp)) (hq_tne (hr_19 hR) (hr_28 hR) (by simp)) (hq_tne (hr_19 hR) (hr_29 hR) (by simp)) (hq_tne (hr_19 hR) (hr_30 hR) (by simp)) (hq_tne (hr_19 hR) (hr_37 hR) (by simp)) (hq_tne (hr_19 hR) (hr_44 hR) (by simp)) (hq_tne (hr_19 hR) (hr_45 hR) (by simp)) (hq_tne (hr_19 hR) (hr_46 hR) (by simp)) ⟨_, (hr_19 hR), by decide, by decide, by decide, by decide, by decide⟩).trans (fr15 (q + 19) (hq_tne (hr_19 hR) ty1 (by simp)) (hq_tne (hr_19 hR) ty5 (by simp)) (by omega) (by omega) (hq_tne (hr_19 hR) ty7 (by simp)) (hq_tne (hr_19 hR) ty8 (by simp)) (hq_tne (hr_19 hR) ty9 (by simp)) (hq_tne (hr_19 hR) ty10 (by simp)) (by omega) (hq_tne (hr_19 hR) ty11 (by simp)) (by omega) (hq_tne (hr_19 hR) ty12 (by simp)) (by omega) (hq_tne (hr_19 hR) ty13 (by simp)) (hq_tne (hr_19 hR) ty14 (by simp)) (hq_tne (hr_19 hR) ty15 (by simp)) (by omega) ⟨_, (hr_19 hR), by decide, by decide, by decide, by decide⟩)).trans h9⟩), hE9, hC9⟩
    exact kk _ _ _ ls hZ hinv9 (lv_sub hl [0, 1, 2, 3] rfl)

set_option maxHeartbeats 8000000 in
set_option maxRecDepth 100000 in
theorem hx_c_change {p : Program} {e : Env} {s : State} {m : MethodId} {below : List Frame} {meth : Method} {c : Code} (l : Launch) (D : va_G) (cs : Nat → ClassId) (B : Nat) (G : hq_G) {b L : Nat} {xs : Nat → Int32} (hx : p.tables.exec = Jvm.exec) (hb : c.code = code) (hml : c.maxLocals = 4) (hown : s.vm.findClass RL = some m.cls) (hts : ∀ w ∈ TBG, w.before #[Value.ref b] s = true) (hX : va_X b L xs s s.heap) (hbl : b < s.heap.size) (hbA : ¬ hp_F B b) (hL : L ≤ 3072) (a nb mo q n : Nat) (hT : hk_Ty G a nb mo q) (hT2 : hk_T2 G nb q) (hT3 : hk_T3 G nb) (hT4 : hk_T4 G nb q) (hak : a + 1 = nb) (hmo9 : mo = nb + 842) (hq9 : q = nb + 843) (i : Int32) (hi0 : 0 ≤ i.toInt) (hi1 : i.toInt + 6 ≤ L) (kk : ∀ (V9 : hp_V) (H9 : Heap) (locs9 : List Loc) (ls : Array Slot), hp_Z D cs B s V9 H9 n locs9 → hk_InvX cs G a nb mo q V9 → lv_has ls 4 [(3, .int i), (2, .ref mo), (1, .ref a), (0, .ref b)] → W p l e room_1 s m #[Value.ref b] below meth c H9 locs9 891 28710 (lw_Z below #[Value.ref b] s) (F0 m 761 ls [])) (V9 : hp_V) (H9 : Heap) (locs9 : List Loc) (ls : Array Slot) (hZ : hp_Z D cs B s V9 H9 n locs9) (hinv : hk_InvX cs G a nb mo q V9) (hl : lv_has ls 4 [(3, .int i), (2, .ref mo), (1, .ref a), (0, .ref b)]) : W p l e room_1 s m #[Value.ref b] below meth c H9 locs9 891 28710 (lw_Z below #[Value.ref b] s) (F0 m 659 ls []) := by
  obtain ⟨ty0, ty1, ty2, ty3, ty4, ty5, ty6, ty7, ty8, ty9, ty10, ty11, ty12, ty13, ty14, ty15, ty16, ty17, ty18, ty19, ty20, hR⟩ := id hT
  obtain ⟨hI, c_fs, q_fk, q_fp, q_nx, q_tk, q_st, e_fd, e_sz, p_z, m_tp, m_sz, m_fr, m_bh, m_hd, m_ft, m_fa, m_le, m_fo, m_as, m_fd, m_bc, m_bg, m_bs, m_be, m_b0, m_b1, m_cm, m_hc, c_to, c_sp, q_tx, q_ou, e_bk, e_an, e_mk, ho_a, htold, hfs, hJ, ho_p, ho_e, hef, hes, ho_n, ho_m, hiv0, hiv1, hiv2, hiv3, hiv4, hiv5, hiv6, hiv7, hzt, hVQ, hst, hE, hCH⟩ := hinv
  have hP : hq_P cs G (fun _ => true) V9 V9 := hq_P.rf hI
  have hb_c_fs := hq_rng c_fs
  have hb_q_fk := hq_rng q_fk
  have hb_q_fp := hq_rng q_fp
  have hb_q_nx := hq_rng q_nx
  have hb_q_tk := hq_rng q_tk
  have hb_q_st := hq_rng q_st
  have hb_e_fd := hq_rng e_fd
  have hb_e_sz := hq_rng e_sz
  have hb_p_z := hq_rng p_z
  have hb_m_tp := hq_rng m_tp
  have hb_m_sz := hq_rng m_sz
  have hb_m_fr := hq_rng m_fr
  have hb_m_bh := hq_rng m_bh
  have hb_m_hd := hq_rng m_hd
  have hb_m_ft := hq_rng m_ft
  have hb_m_fa := hq_rng m_fa
  have hb_m_le := hq_rng m_le
  have hb_m_fo := hq_rng m_fo
  have hb_m_as := hq_rng m_as
  have hb_m_fd := hq_rng m_fd
  have hb_m_bc := hq_rng m_bc
  have hb_m_bg := hq_rng m_bg
  have hb_m_bs := hq_rng m_bs
  have hb_m_be := hq_rng m_be
  have hb_m_b0 := hq_rng m_b0
  have hb_m_b1 := hq_rng m_b1
  have hb_m_cm := hq_rng m_cm
  have hb_m_hc := hq_rng m_hc
  have hb_i := hq_rng i
  rcases htold with ⟨rfl, rfl⟩ | ⟨rfl, rfl⟩
  · obtain ⟨hE0, ⟨w, hTx, hTm, hoc⟩, ⟨wb, bk, rh, hAR0, hBm, ⟨hgood, hgood2, hocb⟩, hBx⟩, hS0, hS1, hTS⟩ := id hE
    obtain ⟨hz1, hz2, tg0, htg0, hz3⟩ := hx_TP.opn hTx ho_n
    obtain ⟨tg1, htg1, hok, hz4⟩ := id hTm
    obtain ⟨hm1, hm2, hm3, -⟩ := id hBm
    refine lv_aload_n hx hb dL_law_659 rfl (lv_at hl 2 rfl) ?_
    refine lv_aload_n hx hb dL_law_660 rfl (lv_at hl 3 rfl) ?_
    refine lv_iload_n hx hb dL_law_661 rfl (lv_at hl 0 rfl) ?_
    refine lv_iconst (v := 1) hx hb dL_law_662 (by decide) ?_
    refine lv_iadd hx hb dL_law_663 ?_
    refine va_sld hx hb hX hbl hbA hZ.2.1 (hk_ix hi0 hi1 hL (by decide) (by decide)) dL_law_664 ?_
    refine lv_topi (fun y1 ey2 => ?_)
    obtain ⟨kk9, mm9, tt9, wh9, mi9, ta9, gf9, hch1, hch2, hch3, hch4, hch5, hch6, hch7, hgf9, hch9⟩ := id hCH
    obtain ⟨T9, hT91, hT92, hT93⟩ := hk_T9 hch9
    refine hp_calli (hp_runV (As := [.int (y1)]) (rest := []) hx hb hml hown hts (x_change l D cs B G V9 n hP.1 (a) (nb) (nb + 88) (nb + 465) (T9) (y1) (c_fs) (e_fd) (e_sz) (e_bk) (e_an) (e_mk) (kk9) (mm9) (tt9)  ho_a ho_e hch1 hch2 hch3  hT91 hT92) hZ ho_a cv_L_79 rfl rfl ⟨Nat.le_of_ble_eq_true rfl, Nat.le_of_ble_eq_true rfl⟩ rfl hl.1 rfl (Nat.le_of_ble_eq_true rfl) dL_law_665 ⟨(Nat.le_of_ble_eq_true rfl), (Nat.le_of_ble_eq_true rfl)⟩) hZ (fun r6 V3 n4 _ _ hw5 hZ => ?_)
    obtain ⟨rfl, rfl, hp9⟩ := hw5
    have b10 := hq_rng r6
    refine lv_aload_n hx hb dL_law_668 rfl (lv_at hl 1 rfl) ?_
    refine lv_aload_n hx hb dL_law_669 rfl (lv_at hl 3 rfl) ?_
    refine lv_iload_n hx hb dL_law_670 rfl (lv_at hl 0 rfl) ?_
    refine lv_iconst (v := 1) hx hb dL_law_671 (by decide) ?_
    refine lv_iadd hx hb dL_law_672 ?_
    refine va_sld hx hb hX hbl hbA hZ.2.1 (hk_ix hi0 hi1 hL (by decide) (by decide)) dL_law_673 ?_
    refine lv_topi (fun y11 ey12 => ?_)
    have b13 : y1 = y11 := by rw [ey12, ey2]
    subst b13
    refine hp_calli (hp_runV (As := [.int (y1)]) (rest := [.int (r6)]) hx hb hml hown hts (y_change l D cs B G V9 n hP.1 (q) (mo) (T9) (m_tp) (m_sz) (m_fr) (m_bh) (m_hd) (m_ft) (m_fa) (m_le) (m_fo) (m_as) (m_fd) (m_bc) (m_bg) (m_bs) (m_be) (m_b0) (m_b1) (m_cm) (m_hc) (y1) (wh9) (mi9) (ta9)  ho_m hch4 hch5 hch6  hR ty20 (by omega) (fun h9 => by rcases hT93 with g9 | g9; (· omega); (· exact ⟨g9.2.2, g9.2.1, hT92⟩))) hZ ho_m cv_L_82 rfl rfl ⟨Nat.le_of_ble_eq_true rfl, Nat.le_of_ble_eq_true rfl⟩ rfl hl.1 rfl (Nat.le_of_ble_eq_true rfl) dL_law_674 ⟨(Nat.le_of_ble_eq_true rfl), (Nat.le_of_ble_eq_true rfl)⟩) hZ (fun r17 V14 n15 _ _ hw16 hZ => ?_)
    obtain ⟨rfl, rfl, hp20⟩ := hw16
    have b21 := hq_rng r17
    have hcmp : (r6).toInt = (r17).toInt := by
      rcases hp20 with ⟨g1, g2⟩ | ⟨g1, g2⟩
      · rcases hT93 with g9 | g9
        · rw [hp9, g9.2, sp_cha_nil, g2]
        · omega
      · rw [hp9, g2]
    refine lv_icmp_eq (tgt := 761) hx hb dL_law_677 (by decide) (fun c22 => ?_) (fun c22 => absurd (show r6 = r17 from Int32.toInt_inj.mp (by omega)) c22)
    have hinv9 : hk_InvX cs G a nb mo q V9 := ⟨hP.1, _, _, _, _, _, _, _, _, _, _, _, _, _, _, _, _, _, _, _, _, _, _, _, _, _, _, _, _, _, _, _, _, _, _, _, ho_a, Or.inl ⟨rfl, rfl⟩, by omega, hJ, ho_p, ho_e, by omega, by omega, ho_n, ho_m, by omega, by omega, by omega, by omega, by omega, by omega, by omega, by omega, by omega, hVQ, hst, hE, hCH⟩
    exact kk _ _ _ ls hZ hinv9 (lv_sub hl [0, 1, 2, 3] rfl)
  · obtain ⟨hE0, ⟨w, hTx, hTm, hoc⟩, ⟨wb, bk, rh, hAR0, hBm, ⟨hgood, hgood2, hocb⟩, hBx⟩, hS0, hS1, hTS⟩ := id hE
    obtain ⟨hz1, hz2, tg0, htg0, hz3⟩ := hx_TP.opn hTx ho_n
    obtain ⟨tg1, htg1, hok, hz4⟩ := id hTm
    obtain ⟨hm1, hm2, hm3, -⟩ := id hBm
    refine lv_aload_n hx hb dL_law_659 rfl (lv_at hl 2 rfl) ?_
    refine lv_aload_n hx hb dL_law_660 rfl (lv_at hl 3 rfl) ?_
    refine lv_iload_n hx hb dL_law_661 rfl (lv_at hl 0 rfl) ?_
    refine lv_iconst (v := 1) hx hb dL_law_662 (by decide) ?_
    refine lv_iadd hx hb dL_law_663 ?_
    refine va_sld hx hb hX hbl hbA hZ.2.1 (hk_ix hi0 hi1 hL (by decide) (by decide)) dL_law_664 ?_
    refine lv_topi (fun y1 ey2 => ?_)
    obtain ⟨kk9, mm9, tt9, wh9, mi9, ta9, gf9, hch1, hch2, hch3, hch4, hch5, hch6, hch7, hgf9, hch9⟩ := id hCH
    obtain ⟨T9, hT91, hT92, hT93⟩ := hk_T9 hch9
    refine hp_calli (hp_runV (As := [.int (y1)]) (rest := []) hx hb hml hown hts (x_change l D cs B G V9 n hP.1 (a) (nb) (nb + 465) (nb + 88) (T9) (y1) (c_fs) (e_fd) (e_sz) (e_bk) (e_an) (e_mk) (kk9) (mm9) (tt9)  ho_a ho_e hch1 hch2 hch3  hT91 hT92) hZ ho_a cv_L_79 rfl rfl ⟨Nat.le_of_ble_eq_true rfl, Nat.le_of_ble_eq_true rfl⟩ rfl hl.1 rfl (Nat.le_of_ble_eq_true rfl) dL_law_665 ⟨(Nat.le_of_ble_eq_true rfl), (Nat.le_of_ble_eq_true rfl)⟩) hZ (fun r6 V3 n4 _ _ hw5 hZ => ?_)
    obtain ⟨rfl, rfl, hp9⟩ := hw5
    have b10 := hq_rng r6
    refine lv_aload_n hx hb dL_law_668 rfl (lv_at hl 1 rfl) ?_
    refine lv_aload_n hx hb dL_law_669 rfl (lv_at hl 3 rfl) ?_
    refine lv_iload_n hx hb dL_law_670 rfl (lv_at hl 0 rfl) ?_
    refine lv_iconst (v := 1) hx hb dL_law_671 (by decide) ?_
    refine lv_iadd hx hb dL_law_672 ?_
    refine va_sld hx hb hX hbl hbA hZ.2.1 (hk_ix hi0 hi1 hL (by decide) (by decide)) dL_law_673 ?_
    refine lv_topi (fun y11 ey12 => ?_)
    have b13 : y1 = y11 := by rw [ey12, ey2]
    subst b13
    refine hp_calli (hp_runV (As := [.int (y1)]) (rest := [.int (r6)]) hx hb hml hown hts (y_change l D cs B G V9 n hP.1 (q) (mo) (T9) (m_tp) (m_sz) (m_fr) (m_bh) (m_hd) (m_ft) (m_fa) (m_le) (m_fo) (m_as) (m_fd) (m_bc) (m_bg) (m_bs) (m_be) (m_b0) (m_b1) (m_cm) (m_hc) (y1) (wh9) (mi9) (ta9)  ho_m hch4 hch5 hch6  hR ty20 (by omega) (fun h9 => by rcases hT93 with g9 | g9; (· omega); (· exact ⟨g9.2.2, g9.2.1, hT92⟩))) hZ ho_m cv_L_82 rfl rfl ⟨Nat.le_of_ble_eq_true rfl, Nat.le_of_ble_eq_true rfl⟩ rfl hl.1 rfl (Nat.le_of_ble_eq_true rfl) dL_law_674 ⟨(Nat.le_of_ble_eq_true rfl), (Nat.le_of_ble_eq_true rfl)⟩) hZ (fun r17 V14 n15 _ _ hw16 hZ => ?_)
    obtain ⟨rfl, rfl, hp20⟩ := hw16
    have b21 := hq_rng r17
    have hcmp : (r6).toInt = (r17).toInt := by
      rcases hp20 with ⟨g1, g2⟩ | ⟨g1, g2⟩
      · rcases hT93 with g9 | g9
        · rw [hp9, g9.2, sp_cha_nil, g2]
        · omega
      · rw [hp9, g2]
    refine lv_icmp_eq (tgt := 761) hx hb dL_law_677 (by decide) (fun c22 => ?_) (fun c22 => absurd (show r6 = r17 from Int32.toInt_inj.mp (by omega)) c22)
    have hinv9 : hk_InvX cs G a nb mo q V9 := ⟨hP.1, _, _, _, _, _, _, _, _, _, _, _, _, _, _, _, _, _, _, _, _, _, _, _, _, _, _, _, _, _, _, _, _, _, _, _, ho_a, Or.inr ⟨rfl, rfl⟩, by omega, hJ, ho_p, ho_e, by omega, by omega, ho_n, ho_m, by omega, by omega, by omega, by omega, by omega, by omega, by omega, by omega, by omega, hVQ, hst, hE, hCH⟩
    exact kk _ _ _ ls hZ hinv9 (lv_sub hl [0, 1, 2, 3] rfl)

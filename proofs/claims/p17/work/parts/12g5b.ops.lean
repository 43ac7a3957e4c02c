set_option maxHeartbeats 8000000 in
set_option maxRecDepth 100000 in
theorem hx_c_drill {p : Program} {e : Env} {s : State} {m : MethodId} {below : List Frame} {meth : Method} {c : Code} (l : Launch) (D : va_G) (cs : Nat → ClassId) (B : Nat) (G : hq_G) {b L : Nat} {xs : Nat → Int32} (hx : p.tables.exec = Jvm.exec) (hb : c.code = code) (hml : c.maxLocals = 4) (hown : s.vm.findClass RL = some m.cls) (hts : ∀ w ∈ TBG, w.before #[Value.ref b] s = true) (hX : va_X b L xs s s.heap) (hbl : b < s.heap.size) (hbA : ¬ hp_F B b) (hL : L ≤ 3072) (a nb mo q n : Nat) (hT : hk_Ty G a nb mo q) (hT2 : hk_T2 G nb q) (hT3 : hk_T3 G nb) (hT4 : hk_T4 G nb q) (hak : a + 1 = nb) (hmo9 : mo = nb + 842) (hq9 : q = nb + 843) (i : Int32) (hi0 : 0 ≤ i.toInt) (hi1 : i.toInt + 6 ≤ L) (kk : ∀ (V9 : hp_V) (H9 : Heap) (locs9 : List Loc) (ls : Array Slot), hp_Z D cs B s V9 H9 n locs9 → hk_InvX cs G a nb mo q V9 → lv_has ls 4 [(3, .int i), (2, .ref mo), (1, .ref a), (0, .ref b)] → W p l e room_1 s m #[Value.ref b] below meth c H9 locs9 891 28710 (lw_Z below #[Value.ref b] s) (F0 m 761 ls [])) (V9 : hp_V) (H9 : Heap) (locs9 : List Loc) (ls : Array Slot) (hZ : hp_Z D cs B s V9 H9 n locs9) (hinv : hk_InvX cs G a nb mo q V9) (hl : lv_has ls 4 [(3, .int i), (2, .ref mo), (1, .ref a), (0, .ref b)]) : W p l e room_1 s m #[Value.ref b] below meth c H9 locs9 891 28710 (lw_Z below #[Value.ref b] s) (F0 m 715 ls []) := by
  obtain ⟨ty0, ty1, ty2, ty3, ty4, ty5, ty6, ty7, ty8, ty9, ty10, ty11, ty12, ty13, ty14, ty15, ty16, ty17, ty18, ty19, ty20, hR⟩ := id hT
  obtain ⟨hI, c_fs, q_fk, q_fp, q_nx, q_tk, q_st, e_fd, e_sz, p_z, m_tp, m_sz, m_fr, m_bh, m_hd, m_ft, m_fa, m_le, m_fo, m_as, m_fd, m_bc, m_bg, m_bs, m_be, m_b0, m_b1, m_cm, m_hc, c_to, c_sp, q_tx, q_ou, e_bk, e_an, e_mk, ho_a, htold, hfs, hJ, ho_p, ho_e, hef, hes, ho_n, ho_m, hiv0, hiv1, hiv2, hiv3, hiv4, hiv5, hiv6, hiv7, hzt, hVQ, hst, hE, hCH⟩ := hinv
  have hP : hq_P cs G (fun _ => true) V9 V9 := hq_P.rf hI
  have hb_c_fs := hq_rng c_fs
  have hb_q_fk := hq_rng q_fk
  have hb_q_fp := hq_rng q_fp
  have hb_q_nx := hq_rng q_nx
  have hb_q_tk := hq_rng q_tk
  have hb_q_st := hq_rng q_st
  have hb_e_fd := hq_rng e_fd
  have hb_e_sz := hq_rng e_sz
  have hb_p_z := hq_rng p_z
  have hb_m_tp := hq_rng m_tp
  have hb_m_sz := hq_rng m_sz
  have hb_m_fr := hq_rng m_fr
  have hb_m_bh := hq_rng m_bh
  have hb_m_hd := hq_rng m_hd
  have hb_m_ft := hq_rng m_ft
  have hb_m_fa := hq_rng m_fa
  have hb_m_le := hq_rng m_le
  have hb_m_fo := hq_rng m_fo
  have hb_m_as := hq_rng m_as
  have hb_m_fd := hq_rng m_fd
  have hb_m_bc := hq_rng m_bc
  have hb_m_bg := hq_rng m_bg
  have hb_m_bs := hq_rng m_bs
  have hb_m_be := hq_rng m_be
  have hb_m_b0 := hq_rng m_b0
  have hb_m_b1 := hq_rng m_b1
  have hb_m_cm := hq_rng m_cm
  have hb_m_hc := hq_rng m_hc
  have hb_i := hq_rng i
  rcases htold with ⟨rfl, rfl⟩ | ⟨rfl, rfl⟩
  · refine lv_aload_n hx hb dL_law_715 rfl (lv_at hl 2 rfl) ?_
    refine lv_aload_n hx hb dL_law_716 rfl (lv_at hl 3 rfl) ?_
    refine lv_iload_n hx hb dL_law_717 rfl (lv_at hl 0 rfl) ?_
    refine lv_iconst (v := 1) hx hb dL_law_718 (by decide) ?_
    refine lv_iadd hx hb dL_law_719 ?_
    refine va_sld hx hb hX hbl hbA hZ.2.1 (hk_ix hi0 hi1 hL (by decide) (by decide)) dL_law_720 ?_
    refine lv_topi (fun y1 ey2 => ?_)
    refine hp_calli (hp_runV (As := [.int (y1)]) (rest := []) hx hb hml hown hts (t_X11_drill_0 l D cs B G  V9 n hP.1  (a) ty0 (y1) ho_a ty1 ty3 ty5 ty6 ty7 ty16 ty17 ty18 ty19 (by omega) hJ) hZ ho_a cv_L_87 rfl rfl ⟨Nat.le_of_ble_eq_true rfl, Nat.le_of_ble_eq_true rfl⟩ rfl hl.1 rfl (Nat.le_of_ble_eq_true rfl) dL_law_721 ⟨(Nat.le_of_ble_eq_true rfl), (Nat.le_of_ble_eq_true rfl)⟩) hZ (fun r6 V3 n4 _ _ hw5 hZ => ?_)
    obtain ⟨rfl, hq7, ho9, hr8⟩ := hw5
    have hP := hP.trans hq7 (fun _ h => Bool.noConfusion h)
    have b10 := hq_rng r6
    refine lv_pop hx hb dL_law_724 rfl ?_
    refine lv_aload_n hx hb dL_law_725 rfl (lv_at hl 1 rfl) ?_
    refine lv_aload_n hx hb dL_law_726 rfl (lv_at hl 3 rfl) ?_
    refine lv_iload_n hx hb dL_law_727 rfl (lv_at hl 0 rfl) ?_
    refine lv_iconst (v := 1) hx hb dL_law_728 (by decide) ?_
    refine lv_iadd hx hb dL_law_729 ?_
    refine va_sld hx hb hX hbl hbA hZ.2.1 (hk_ix hi0 hi1 hL (by decide) (by decide)) dL_law_730 ?_
    refine lv_topi (fun y11 ey12 => ?_)
    have b13 : y1 = y11 := by rw [ey12, ey2]
    subst b13
    have fx20 : V3 (mo) = some (.inr (13, hm_o q (m_tp) (m_sz) (m_fr) (m_bh) (m_hd) (m_ft) (m_fa) (m_le) (m_fo) (m_as) (m_fd) (m_bc) (m_bg) (m_bs) (m_be) (m_b0) (m_b1) (m_cm) (m_hc))) := (hq7.2 (mo) _ ty20 rfl).trans (ho_m)
    refine hp_calli (hp_runV (As := [.int (y1)]) (rest := []) hx hb hml hown hts (t_X13_drill l D cs B G  V3 n hP.1 q hR (mo) ty20 (y1) fx20  (by omega) (by omega) (by omega) (by omega) (by omega) (by omega) (by omega) (by omega) (hVQ.keep hR (fun x t hx hg => hq7.2 x t hx (by simp [hg])))) hZ fx20 cv_L_90 rfl rfl ⟨Nat.le_of_ble_eq_true rfl, Nat.le_of_ble_eq_true rfl⟩ rfl hl.1 rfl (Nat.le_of_ble_eq_true rfl) dL_law_731 ⟨(Nat.le_of_ble_eq_true rfl), (Nat.le_of_ble_eq_true rfl)⟩) hZ (fun r17 V14 n15 _ _ hw16 hZ => ?_)
    obtain ⟨rfl, hq18, ⟨z21, z22, ho23, hi24, hi25⟩, hr19⟩ := hw16
    have hP := hP.trans hq18 (fun _ h => Bool.noConfusion h)
    have b26 := hq_rng z22
    have b27 := hq_rng z21
    have b28 := hq_rng r17
    refine lv_pop hx hb dL_law_734 rfl ?_
    refine lv_goto (tgt := 761) hx hb dL_law_735 (by decide) ?_
    have fx29 : V14 (a) = some (.inr (11, [.ref (nb), .ref (nb + 2), .ref (nb + 5), .ref (nb + 46), .ref (nb + 50), .ref (nb + 62), .ref (nb + 87), .int (c_fs), .ref (nb + 88), .ref (nb + 465)])) := (hq18.2 (a) _ ty0 rfl).trans (ho9)
    have fx30 : V14 (nb + 2) = some (.inr (7, [.int (q_fk), .int (q_fp), q_tx, q_ou, .int (q_nx), .int (q_tk), .int (q_st), .ref (nb + 3)])) := (hq18.2 (nb + 2) _ ty3 rfl).trans ((hq7.2 (nb + 2) _ ty3 rfl).trans (ho_p))
    have fx31 : V14 (nb + 50) = some (.inr (1, [.ref (nb + 51), .ref (nb + 52), .int (e_fd), .ref (nb + 53), .ref (nb + 55), .ref (nb + 57), e_bk, e_an, e_mk, .int (e_sz), .ref (nb + 59), .ref (nb + 60), .ref (nb + 61)])) := (hq18.2 (nb + 50) _ ty7 rfl).trans ((hq7.2 (nb + 50) _ ty7 rfl).trans (ho_e))
    have fx32 : V14 (nb) = some (.inr (9, [.ref (nb + 1), .int (p_z)])) := (hq18.2 (nb) _ ty1 rfl).trans ((hq7.2 (nb) _ ty1 rfl).trans (ho_n))
    have hinv9 : hk_InvX cs G a nb mo q V14 := ⟨hP.1, _, _, _, _, _, _, _, _, _, _, _, _, _, _, _, _, _, _, _, _, _, _, _, _, _, _, _, _, _, _, _, _, _, _, _, fx29, Or.inl ⟨rfl, rfl⟩, by omega, (hJ.keep hP.1 ty18 (fun x t hx hg => (hq_lgp hq18 hx hg (fun _ => rfl)).trans (hq_lgp hq7 hx hg (fun _ => rfl)))), fx30, fx31, by omega, by omega, fx32, ho23, by omega, by omega, by omega, by omega, by omega, by omega, by omega, by omega, by omega, (hVQ.keep hR (fun x t hx hg => (hq18.2 x t hx (by simp [hg])).trans (hq7.2 x t hx (by simp [hg])))), (by obtain ⟨fs9, h9⟩ := hst; exact ⟨fs9, ((hq18.2 (q + 19) _ (hr_19 hR) rfl).trans (hq7.2 (q + 19) _ (hr_19 hR) rfl)).trans h9⟩), (hE.keep (Or.inl rfl) (fun x hx => (hT2.fr hq18 (fun g hg => by first | rfl | (unfold hk_gr at hg; simp; omega)) x hx).trans (hT2.fr hq7 (fun g hg => by first | rfl | (unfold hk_gr at hg; simp; omega)) x hx)) ((hq18.2 _ _ ty1 rfl).trans (hq7.2 _ _ ty1 rfl)) ((hq18.2 _ _ ty2 rfl).trans (hq7.2 _ _ ty2 rfl)) ((hq18.2 _ _ (hr_20 hR) rfl).trans (hq7.2 _ _ (hr_20 hR) rfl))), (hCH.keep (fun x hx => (hT4.fr hq18 (fun g hg => by first | rfl | (simp; omega)) x hx).trans (hT4.fr hq7 (fun g hg => by first | rfl | (simp; omega)) x hx)))⟩
    exact kk _ _ _ ls hZ hinv9 (lv_sub hl [0, 1, 2, 3] rfl)
  · refine lv_aload_n hx hb dL_law_715 rfl (lv_at hl 2 rfl) ?_
    refine lv_aload_n hx hb dL_law_716 rfl (lv_at hl 3 rfl) ?_
    refine lv_iload_n hx hb dL_law_717 rfl (lv_at hl 0 rfl) ?_
    refine lv_iconst (v := 1) hx hb dL_law_718 (by decide) ?_
    refine lv_iadd hx hb dL_law_719 ?_
    refine va_sld hx hb hX hbl hbA hZ.2.1 (hk_ix hi0 hi1 hL (by decide) (by decide)) dL_law_720 ?_
    refine lv_topi (fun y1 ey2 => ?_)
    refine hp_calli (hp_runV (As := [.int (y1)]) (rest := []) hx hb hml hown hts (t_X11_drill_1 l D cs B G  V9 n hP.1  (a) ty0 (y1) ho_a ty1 ty3 ty5 ty6 ty7 ty16 ty17 ty19 ty18 (by omega) hJ) hZ ho_a cv_L_87 rfl rfl ⟨Nat.le_of_ble_eq_true rfl, Nat.le_of_ble_eq_true rfl⟩ rfl hl.1 rfl (Nat.le_of_ble_eq_true rfl) dL_law_721 ⟨(Nat.le_of_ble_eq_true rfl), (Nat.le_of_ble_eq_true rfl)⟩) hZ (fun r6 V3 n4 _ _ hw5 hZ => ?_)
    obtain ⟨rfl, hq7, ho9, hr8⟩ := hw5
    have hP := hP.trans hq7 (fun _ h => Bool.noConfusion h)
    have b10 := hq_rng r6
    refine lv_pop hx hb dL_law_724 rfl ?_
    refine lv_aload_n hx hb dL_law_725 rfl (lv_at hl 1 rfl) ?_
    refine lv_aload_n hx hb dL_law_726 rfl (lv_at hl 3 rfl) ?_
    refine lv_iload_n hx hb dL_law_727 rfl (lv_at hl 0 rfl) ?_
    refine lv_iconst (v := 1) hx hb dL_law_728 (by decide) ?_
    refine lv_iadd hx hb dL_law_729 ?_
    refine va_sld hx hb hX hbl hbA hZ.2.1 (hk_ix hi0 hi1 hL (by decide) (by decide)) dL_law_730 ?_
    refine lv_topi (fun y11 ey12 => ?_)
    have b13 : y1 = y11 := by rw [ey12, ey2]
    subst b13
    have fx20 : V3 (mo) = some (.inr (13, hm_o q (m_tp) (m_sz) (m_fr) (m_bh) (m_hd) (m_ft) (m_fa) (m_le) (m_fo) (m_as) (m_fd) (m_bc) (m_bg) (m_bs) (m_be) (m_b0) (m_b1) (m_cm) (m_hc))) := (hq7.2 (mo) _ ty20 rfl).trans (ho_m)
    refine hp_calli (hp_runV (As := [.int (y1)]) (rest := []) hx hb hml hown hts (t_X13_drill l D cs B G  V3 n hP.1 q hR (mo) ty20 (y1) fx20  (by omega) (by omega) (by omega) (by omega) (by omega) (by omega) (by omega) (by omega) (hVQ.keep hR (fun x t hx hg => hq7.2 x t hx (by simp [hg])))) hZ fx20 cv_L_90 rfl rfl ⟨Nat.le_of_ble_eq_true rfl, Nat.le_of_ble_eq_true rfl⟩ rfl hl.1 rfl (Nat.le_of_ble_eq_true rfl) dL_law_731 ⟨(Nat.le_of_ble_eq_true rfl), (Nat.le_of_ble_eq_true rfl)⟩) hZ (fun r17 V14 n15 _ _ hw16 hZ => ?_)
    obtain ⟨rfl, hq18, ⟨z21, z22, ho23, hi24, hi25⟩, hr19⟩ := hw16
    have hP := hP.trans hq18 (fun _ h => Bool.noConfusion h)
    have b26 := hq_rng z22
    have b27 := hq_rng z21
    have b28 := hq_rng r17
    refine lv_pop hx hb dL_law_734 rfl ?_
    refine lv_goto (tgt := 761) hx hb dL_law_735 (by decide) ?_
    have fx29 : V14 (a) = some (.inr (11, [.ref (nb), .ref (nb + 2), .ref (nb + 5), .ref (nb + 46), .ref (nb + 50), .ref (nb + 62), .ref (nb + 87), .int (c_fs), .ref (nb + 465), .ref (nb + 88)])) := (hq18.2 (a) _ ty0 rfl).trans (ho9)
    have fx30 : V14 (nb + 2) = some (.inr (7, [.int (q_fk), .int (q_fp), q_tx, q_ou, .int (q_nx), .int (q_tk), .int (q_st), .ref (nb + 3)])) := (hq18.2 (nb + 2) _ ty3 rfl).trans ((hq7.2 (nb + 2) _ ty3 rfl).trans (ho_p))
    have fx31 : V14 (nb + 50) = some (.inr (1, [.ref (nb + 51), .ref (nb + 52), .int (e_fd), .ref (nb + 53), .ref (nb + 55), .ref (nb + 57), e_bk, e_an, e_mk, .int (e_sz), .ref (nb + 59), .ref (nb + 60), .ref (nb + 61)])) := (hq18.2 (nb + 50) _ ty7 rfl).trans ((hq7.2 (nb + 50) _ ty7 rfl).trans (ho_e))
    have fx32 : V14 (nb) = some (.inr (9, [.ref (nb + 1), .int (p_z)])) := (hq18.2 (nb) _ ty1 rfl).trans ((hq7.2 (nb) _ ty1 rfl).trans (ho_n))
    have hinv9 : hk_InvX cs G a nb mo q V14 := ⟨hP.1, _, _, _, _, _, _, _, _, _, _, _, _, _, _, _, _, _, _, _, _, _, _, _, _, _, _, _, _, _, _, _, _, _, _, _, fx29, Or.inr ⟨rfl, rfl⟩, by omega, (hJ.keep hP.1 ty19 (fun x t hx hg => (hq_lgp hq18 hx hg (fun _ => rfl)).trans (hq_lgp hq7 hx hg (fun _ => rfl)))), fx30, fx31, by omega, by omega, fx32, ho23, by omega, by omega, by omega, by omega, by omega, by omega, by omega, by omega, by omega, (hVQ.keep hR (fun x t hx hg => (hq18.2 x t hx (by simp [hg])).trans (hq7.2 x t hx (by simp [hg])))), (by obtain ⟨fs9, h9⟩ := hst; exact ⟨fs9, ((hq18.2 (q + 19) _ (hr_19 hR) rfl).trans (hq7.2 (q + 19) _ (hr_19 hR) rfl)).trans h9⟩), (hE.keep (Or.inr rfl) (fun x hx => (hT2.fr hq18 (fun g hg => by first | rfl | (unfold hk_gr at hg; simp; omega)) x hx).trans (hT2.fr hq7 (fun g hg => by first | rfl | (unfold hk_gr at hg; simp; omega)) x hx)) ((hq18.2 _ _ ty1 rfl).trans (hq7.2 _ _ ty1 rfl)) ((hq18.2 _ _ ty2 rfl).trans (hq7.2 _ _ ty2 rfl)) ((hq18.2 _ _ (hr_20 hR) rfl).trans (hq7.2 _ _ (hr_20 hR) rfl))), (hCH.keep (fun x hx => (hT4.fr hq18 (fun g hg => by first | rfl | (simp; omega)) x hx).trans (hT4.fr hq7 (fun g hg => by first | rfl | (simp; omega)) x hx)))⟩
    exact kk _ _ _ ls hZ hinv9 (lv_sub hl [0, 1, 2, 3] rfl)

set_option maxHeartbeats 8000000 in
set_option maxRecDepth 100000 in
theorem hx_c_users {p : Program} {e : Env} {s : State} {m : MethodId} {below : List Frame} {meth : Method} {c : Code} (l : Launch) (D : va_G) (cs : Nat → ClassId) (B : Nat) (G : hq_G) {b L : Nat} {xs : Nat → Int32} (hx : p.tables.exec = Jvm.exec) (hb : c.code = code) (hml : c.maxLocals = 4) (hown : s.vm.findClass RL = some m.cls) (hts : ∀ w ∈ TBG, w.before #[Value.ref b] s = true) (hX : va_X b L xs s s.heap) (hbl : b < s.heap.size) (hbA : ¬ hp_F B b) (hL : L ≤ 3072) (a nb mo q n : Nat) (hT : hk_Ty G a nb mo q) (hT2 : hk_T2 G nb q) (hak : a + 1 = nb) (hmo9 : mo = nb + 842) (hq9 : q = nb + 843) (i : Int32) (hi0 : 0 ≤ i.toInt) (hi1 : i.toInt + 6 ≤ L) (kk : ∀ (V9 : hp_V) (H9 : Heap) (locs9 : List Loc) (ls : Array Slot), hp_Z D cs B s V9 H9 n locs9 → hk_InvX cs G a nb mo q V9 → lv_has ls 4 [(3, .int i), (2, .ref mo), (1, .ref a), (0, .ref b)] → W p l e room_1 s m #[Value.ref b] below meth c H9 locs9 891 28710 (lw_Z below #[Value.ref b] s) (F0 m 761 ls [])) (V9 : hp_V) (H9 : Heap) (locs9 : List Loc) (ls : Array Slot) (hZ : hp_Z D cs B s V9 H9 n locs9) (hinv : hk_InvX cs G a nb mo q V9) (hl : lv_has ls 4 [(3, .int i), (2, .ref mo), (1, .ref a), (0, .ref b)]) : W p l e room_1 s m #[Value.ref b] below meth c H9 locs9 891 28710 (lw_Z below #[Value.ref b] s) (F0 m 583 ls []) := by
  obtain ⟨ty0, ty1, ty2, ty3, ty4, ty5, ty6, ty7, ty8, ty9, ty10, ty11, ty12, ty13, ty14, ty15, ty16, ty17, ty18, ty19, ty20, hR⟩ := id hT
  obtain ⟨hI, c_fs, q_fk, q_fp, q_nx, q_tk, q_st, e_fd, e_sz, p_z, m_tp, m_sz, m_fr, m_bh, m_hd, m_ft, m_fa, m_le, m_fo, m_as, m_fd, m_bc, m_bg, m_bs, m_be, m_b0, m_b1, m_cm, m_hc, c_to, c_sp, q_tx, q_ou, e_bk, e_an, e_mk, ho_a, htold, hfs, hJ, ho_p, ho_e, hef, hes, ho_n, ho_m, hiv0, hiv1, hiv2, hiv3, hiv4, hiv5, hiv6, hiv7, hzt, hVQ, hst, hE⟩ := hinv
  have hP : hq_P cs G (fun _ => true) V9 V9 := hq_P.rf hI
  have hb_c_fs := hq_rng c_fs
  have hb_q_fk := hq_rng q_fk
  have hb_q_fp := hq_rng q_fp
  have hb_q_nx := hq_rng q_nx
  have hb_q_tk := hq_rng q_tk
  have hb_q_st := hq_rng q_st
  have hb_e_fd := hq_rng e_fd
  have hb_e_sz := hq_rng e_sz
  have hb_p_z := hq_rng p_z
  have hb_m_tp := hq_rng m_tp
  have hb_m_sz := hq_rng m_sz
  have hb_m_fr := hq_rng m_fr
  have hb_m_bh := hq_rng m_bh
  have hb_m_hd := hq_rng m_hd
  have hb_m_ft := hq_rng m_ft
  have hb_m_fa := hq_rng m_fa
  have hb_m_le := hq_rng m_le
  have hb_m_fo := hq_rng m_fo
  have hb_m_as := hq_rng m_as
  have hb_m_fd := hq_rng m_fd
  have hb_m_bc := hq_rng m_bc
  have hb_m_bg := hq_rng m_bg
  have hb_m_bs := hq_rng m_bs
  have hb_m_be := hq_rng m_be
  have hb_m_b0 := hq_rng m_b0
  have hb_m_b1 := hq_rng m_b1
  have hb_m_cm := hq_rng m_cm
  have hb_m_hc := hq_rng m_hc
  have hb_i := hq_rng i
  rcases htold with ⟨rfl, rfl⟩ | ⟨rfl, rfl⟩
  · refine lv_aload_n hx hb dL_law_583 rfl (lv_at hl 2 rfl) ?_
    refine lv_aload_n hx hb dL_law_584 rfl (lv_at hl 3 rfl) ?_
    refine lv_iload_n hx hb dL_law_585 rfl (lv_at hl 0 rfl) ?_
    refine lv_iconst (v := 1) hx hb dL_law_586 (by decide) ?_
    refine lv_iadd hx hb dL_law_587 ?_
    refine va_sld hx hb hX hbl hbA hZ.2.1 (hk_ix hi0 hi1 hL (by decide) (by decide)) dL_law_588 ?_
    refine lv_topi (fun y1 ey2 => ?_)
    refine hp_calli (hp_runV (As := [.int (y1)]) (rest := []) hx hb hml hown hts (t_X11_users_0 l D cs B G  V9 n hP.1  (a) ty0 (y1) ho_a ty1 ty3 ty5 ty6 ty7 ty16 ty17 ty18 ty19 (by omega) hJ) hZ ho_a cv_L_70 rfl rfl ⟨Nat.le_of_ble_eq_true rfl, Nat.le_of_ble_eq_true rfl⟩ rfl hl.1 rfl (Nat.le_of_ble_eq_true rfl) dL_law_589 ⟨(Nat.le_of_ble_eq_true rfl), (Nat.le_of_ble_eq_true rfl)⟩) hZ (fun r6 V3 n4 _ _ hw5 hZ => ?_)
    obtain ⟨rfl, hq7, ho9, hr8⟩ := hw5
    have hP := hP.trans hq7 (fun _ h => Bool.noConfusion h)
    have b10 := hq_rng r6
    refine lv_pop hx hb dL_law_592 rfl ?_
    refine lv_aload_n hx hb dL_law_593 rfl (lv_at hl 1 rfl) ?_
    refine lv_aload_n hx hb dL_law_594 rfl (lv_at hl 3 rfl) ?_
    refine lv_iload_n hx hb dL_law_595 rfl (lv_at hl 0 rfl) ?_
    refine lv_iconst (v := 1) hx hb dL_law_596 (by decide) ?_
    refine lv_iadd hx hb dL_law_597 ?_
    refine va_sld hx hb hX hbl hbA hZ.2.1 (hk_ix hi0 hi1 hL (by decide) (by decide)) dL_law_598 ?_
    refine lv_topi (fun y11 ey12 => ?_)
    have b13 : y1 = y11 := by rw [ey12, ey2]
    subst b13
    have fx20 : V3 (mo) = some (.inr (13, hm_o q (m_tp) (m_sz) (m_fr) (m_bh) (m_hd) (m_ft) (m_fa) (m_le) (m_fo) (m_as) (m_fd) (m_bc) (m_bg) (m_bs) (m_be) (m_b0) (m_b1) (m_cm) (m_hc))) := (hq7.2 (mo) _ ty20 rfl).trans (ho_m)
    refine hp_calli (hp_runV (As := [.int (y1)]) (rest := []) hx hb hml hown hts (t_X13_users l D cs B G  V3 n hP.1 q hR (mo) ty20 (y1) fx20  (by omega) (by omega) (by omega) (by omega) (by omega) (by omega) (by omega) (by omega) (hVQ.keep hR (fun x t hx hg => hq7.2 x t hx (by simp [hg])))) hZ fx20 cv_L_73 rfl rfl ⟨Nat.le_of_ble_eq_true rfl, Nat.le_of_ble_eq_true rfl⟩ rfl hl.1 rfl (Nat.le_of_ble_eq_true rfl) dL_law_599 ⟨(Nat.le_of_ble_eq_true rfl), (Nat.le_of_ble_eq_true rfl)⟩) hZ (fun r17 V14 n15 _ _ hw16 hZ => ?_)
    obtain ⟨rfl, hq18, ⟨z21, z22, ho23, hi24, hi25⟩, hr19⟩ := hw16
    have hP := hP.trans hq18 (fun _ h => Bool.noConfusion h)
    have b26 := hq_rng z22
    have b27 := hq_rng z21
    have b28 := hq_rng r17
    refine lv_pop hx hb dL_law_602 rfl ?_
    refine lv_goto (tgt := 761) hx hb dL_law_603 (by decide) ?_
    have fx29 : V14 (a) = some (.inr (11, [.ref (nb), .ref (nb + 2), .ref (nb + 5), .ref (nb + 46), .ref (nb + 50), .ref (nb + 62), .ref (nb + 87), .int (c_fs), .ref (nb + 88), .ref (nb + 465)])) := (hq18.2 (a) _ ty0 rfl).trans (ho9)
    have fx30 : V14 (nb + 2) = some (.inr (7, [.int (q_fk), .int (q_fp), q_tx, q_ou, .int (q_nx), .int (q_tk), .int (q_st), .ref (nb + 3)])) := (hq18.2 (nb + 2) _ ty3 rfl).trans ((hq7.2 (nb + 2) _ ty3 rfl).trans (ho_p))
    have fx31 : V14 (nb + 50) = some (.inr (1, [.ref (nb + 51), .ref (nb + 52), .int (e_fd), .ref (nb + 53), .ref (nb + 55), .ref (nb + 57), e_bk, e_an, e_mk, .int (e_sz), .ref (nb + 59), .ref (nb + 60), .ref (nb + 61)])) := (hq18.2 (nb + 50) _ ty7 rfl).trans ((hq7.2 (nb + 50) _ ty7 rfl).trans (ho_e))
    have fx32 : V14 (nb) = some (.inr (9, [.ref (nb + 1), .int (p_z)])) := (hq18.2 (nb) _ ty1 rfl).trans ((hq7.2 (nb) _ ty1 rfl).trans (ho_n))
    have hinv9 : hk_InvX cs G a nb mo q V14 := ⟨hP.1, _, _, _, _, _, _, _, _, _, _, _, _, _, _, _, _, _, _, _, _, _, _, _, _, _, _, _, _, _, _, _, _, _, _, _, fx29, Or.inl ⟨rfl, rfl⟩, by omega, (hJ.keep hP.1 ty18 (fun x t hx hg => (hq_lgp hq18 hx hg (fun _ => rfl)).trans (hq_lgp hq7 hx hg (fun _ => rfl)))), fx30, fx31, by omega, by omega, fx32, ho23, by omega, by omega, by omega, by omega, by omega, by omega, by omega, by omega, by omega, (hVQ.keep hR (fun x t hx hg => (hq18.2 x t hx (by simp [hg])).trans (hq7.2 x t hx (by simp [hg])))), (by obtain ⟨fs9, h9⟩ := hst; exact ⟨fs9, ((hq18.2 (q + 19) _ (hr_19 hR) rfl).trans (hq7.2 (q + 19) _ (hr_19 hR) rfl)).trans h9⟩), (hE.keep (Or.inl rfl) (fun x hx => (hT2.fr hq18 (fun g hg => by first | rfl | (unfold hk_gr at hg; simp; omega)) x hx).trans (hT2.fr hq7 (fun g hg => by first | rfl | (unfold hk_gr at hg; simp; omega)) x hx)) ((hq18.2 _ _ ty1 rfl).trans (hq7.2 _ _ ty1 rfl)) ((hq18.2 _ _ ty2 rfl).trans (hq7.2 _ _ ty2 rfl)) ((hq18.2 _ _ (hr_20 hR) rfl).trans (hq7.2 _ _ (hr_20 hR) rfl)))⟩
    exact kk _ _ _ ls hZ hinv9 (lv_sub hl [0, 1, 2, 3] rfl)
  · refine lv_aload_n hx hb dL_law_583 rfl (lv_at hl 2 rfl) ?_
    refine lv_aload_n hx hb dL_law_584 rfl (lv_at hl 3 rfl) ?_
    refine lv_iload_n hx hb dL_law_585 rfl (lv_at hl 0 rfl) ?_
    refine lv_iconst (v := 1) hx hb dL_law_586 (by decide) ?_
    refine lv_iadd hx hb dL_law_587 ?_
    refine va_sld hx hb hX hbl hbA hZ.2.1 (hk_ix hi0 hi1 hL (by decide) (by decide)) dL_law_588 ?_
    refine lv_topi (fun y1 ey2 => ?_)
    refine hp_calli (hp_runV (As := [.int (y1)]) (rest := []) hx hb hml hown hts (t_X11_users_1 l D cs B G  V9 n hP.1  (a) ty0 (y1) ho_a ty1 ty3 ty5 ty6 ty7 ty16 ty17 ty19 ty18 (by omega) hJ) hZ ho_a cv_L_70 rfl rfl ⟨Nat.le_of_ble_eq_true rfl, Nat.le_of_ble_eq_true rfl⟩ rfl hl.1 rfl (Nat.le_of_ble_eq_true rfl) dL_law_589 ⟨(Nat.le_of_ble_eq_true rfl), (Nat.le_of_ble_eq_true rfl)⟩) hZ (fun r6 V3 n4 _ _ hw5 hZ => ?_)
    obtain ⟨rfl, hq7, ho9, hr8⟩ := hw5
    have hP := hP.trans hq7 (fun _ h => Bool.noConfusion h)
    have b10 := hq_rng r6
    refine lv_pop hx hb dL_law_592 rfl ?_
    refine lv_aload_n hx hb dL_law_593 rfl (lv_at hl 1 rfl) ?_
    refine lv_aload_n hx hb dL_law_594 rfl (lv_at hl 3 rfl) ?_
    refine lv_iload_n hx hb dL_law_595 rfl (lv_at hl 0 rfl) ?_
    refine lv_iconst (v := 1) hx hb dL_law_596 (by decide) ?_
    refine lv_iadd hx hb dL_law_597 ?_
    refine va_sld hx hb hX hbl hbA hZ.2.1 (hk_ix hi0 hi1 hL (by decide) (by decide)) dL_law_598 ?_
    refine lv_topi (fun y11 ey12 => ?_)
    have b13 : y1 = y11 := by rw [ey12, ey2]
    subst b13
    have fx20 : V3 (mo) = some (.inr (13, hm_o q (m_tp) (m_sz) (m_fr) (m_bh) (m_hd) (m_ft) (m_fa) (m_le) (m_fo) (m_as) (m_fd) (m_bc) (m_bg) (m_bs) (m_be) (m_b0) (m_b1) (m_cm) (m_hc))) := (hq7.2 (mo) _ ty20 rfl).trans (ho_m)
    refine hp_calli (hp_runV (As := [.int (y1)]) (rest := []) hx hb hml hown hts (t_X13_users l D cs B G  V3 n hP.1 q hR (mo) ty20 (y1) fx20  (by omega) (by omega) (by omega) (by omega) (by omega) (by omega) (by omega) (by omega) (hVQ.keep hR (fun x t hx hg => hq7.2 x t hx (by simp [hg])))) hZ fx20 cv_L_73 rfl rfl ⟨Nat.le_of_ble_eq_true rfl, Nat.le_of_ble_eq_true rfl⟩ rfl hl.1 rfl (Nat.le_of_ble_eq_true rfl) dL_law_599 ⟨(Nat.le_of_ble_eq_true rfl), (Nat.le_of_ble_eq_true rfl)⟩) hZ (fun r17 V14 n15 _ _ hw16 hZ => ?_)
    obtain ⟨rfl, hq18, ⟨z21, z22, ho23, hi24, hi25⟩, hr19⟩ := hw16
    have hP := hP.trans hq18 (fun _ h => Bool.noConfusion h)
    have b26 := hq_rng z22
    have b27 := hq_rng z21
    have b28 := hq_rng r17
    refine lv_pop hx hb dL_law_602 rfl ?_
    refine lv_goto (tgt := 761) hx hb dL_law_603 (by decide) ?_
    have fx29 : V14 (a) = some (.inr (11, [.ref (nb), .ref (nb + 2), .ref (nb + 5), .ref (nb + 46), .ref (nb + 50), .ref (nb + 62), .ref (nb + 87), .int (c_fs), .ref (nb + 465), .ref (nb + 88)])) := (hq18.2 (a) _ ty0 rfl).trans (ho9)
    have fx30 : V14 (nb + 2) = some (.inr (7, [.int (q_fk), .int (q_fp), q_tx, q_ou, .int (q_nx), .int (q_tk), .int (q_st), .ref (nb + 3)])) := (hq18.2 (nb + 2) _ ty3 rfl).trans ((hq7.2 (nb + 2) _ ty3 rfl).trans (ho_p))
    have fx31 : V14 (nb + 50) = some (.inr (1, [.ref (nb + 51), .ref (nb + 52), .int (e_fd), .ref (nb + 53), .ref (nb + 55), .ref (nb + 57), e_bk, e_an, e_mk, .int (e_sz), .ref (nb + 59), .ref (nb + 60), .ref (nb + 61)])) := (hq18.2 (nb + 50) _ ty7 rfl).trans ((hq7.2 (nb + 50) _ ty7 rfl).trans (ho_e))
    have fx32 : V14 (nb) = some (.inr (9, [.ref (nb + 1), .int (p_z)])) := (hq18.2 (nb) _ ty1 rfl).trans ((hq7.2 (nb) _ ty1 rfl).trans (ho_n))
    have hinv9 : hk_InvX cs G a nb mo q V14 := ⟨hP.1, _, _, _, _, _, _, _, _, _, _, _, _, _, _, _, _, _, _, _, _, _, _, _, _, _, _, _, _, _, _, _, _, _, _, _, fx29, Or.inr ⟨rfl, rfl⟩, by omega, (hJ.keep hP.1 ty19 (fun x t hx hg => (hq_lgp hq18 hx hg (fun _ => rfl)).trans (hq_lgp hq7 hx hg (fun _ => rfl)))), fx30, fx31, by omega, by omega, fx32, ho23, by omega, by omega, by omega, by omega, by omega, by omega, by omega, by omega, by omega, (hVQ.keep hR (fun x t hx hg => (hq18.2 x t hx (by simp [hg])).trans (hq7.2 x t hx (by simp [hg])))), (by obtain ⟨fs9, h9⟩ := hst; exact ⟨fs9, ((hq18.2 (q + 19) _ (hr_19 hR) rfl).trans (hq7.2 (q + 19) _ (hr_19 hR) rfl)).trans h9⟩), (hE.keep (Or.inr rfl) (fun x hx => (hT2.fr hq18 (fun g hg => by first | rfl | (unfold hk_gr at hg; simp; omega)) x hx).trans (hT2.fr hq7 (fun g hg => by first | rfl | (unfold hk_gr at hg; simp; omega)) x hx)) ((hq18.2 _ _ ty1 rfl).trans (hq7.2 _ _ ty1 rfl)) ((hq18.2 _ _ ty2 rfl).trans (hq7.2 _ _ ty2 rfl)) ((hq18.2 _ _ (hr_20 hR) rfl).trans (hq7.2 _ _ (hr_20 hR) rfl)))⟩
    exact kk _ _ _ ls hZ hinv9 (lv_sub hl [0, 1, 2, 3] rfl)

set_option maxHeartbeats 8000000 in
set_option maxRecDepth 100000 in
theorem hx_c_answer {p : Program} {e : Env} {s : State} {m : MethodId} {below : List Frame} {meth : Method} {c : Code} (l : Launch) (D : va_G) (cs : Nat → ClassId) (B : Nat) (G : hq_G) {b L : Nat} {xs : Nat → Int32} (hx : p.tables.exec = Jvm.exec) (hb : c.code = code) (hml : c.maxLocals = 4) (hown : s.vm.findClass RL = some m.cls) (hts : ∀ w ∈ TBG, w.before #[Value.ref b] s = true) (hX : va_X b L xs s s.heap) (hbl : b < s.heap.size) (hbA : ¬ hp_F B b) (hL : L ≤ 3072) (a nb mo q n : Nat) (hT : hk_Ty G a nb mo q) (hT2 : hk_T2 G nb q) (hak : a + 1 = nb) (hmo9 : mo = nb + 842) (hq9 : q = nb + 843) (i : Int32) (hi0 : 0 ≤ i.toInt) (hi1 : i.toInt + 6 ≤ L) (kk : ∀ (V9 : hp_V) (H9 : Heap) (locs9 : List Loc) (ls : Array Slot), hp_Z D cs B s V9 H9 n locs9 → hk_InvX cs G a nb mo q V9 → lv_has ls 4 [(3, .int i), (2, .ref mo), (1, .ref a), (0, .ref b)] → W p l e room_1 s m #[Value.ref b] below meth c H9 locs9 891 28710 (lw_Z below #[Value.ref b] s) (F0 m 761 ls [])) (V9 : hp_V) (H9 : Heap) (locs9 : List Loc) (ls : Array Slot) (hZ : hp_Z D cs B s V9 H9 n locs9) (hinv : hk_InvX cs G a nb mo q V9) (hl : lv_has ls 4 [(3, .int i), (2, .ref mo), (1, .ref a), (0, .ref b)]) : W p l e room_1 s m #[Value.ref b] below meth c H9 locs9 891 28710 (lw_Z below #[Value.ref b] s) (F0 m 606 ls []) := by
  obtain ⟨ty0, ty1, ty2, ty3, ty4, ty5, ty6, ty7, ty8, ty9, ty10, ty11, ty12, ty13, ty14, ty15, ty16, ty17, ty18, ty19, ty20, hR⟩ := id hT
  obtain ⟨hI, c_fs, q_fk, q_fp, q_nx, q_tk, q_st, e_fd, e_sz, p_z, m_tp, m_sz, m_fr, m_bh, m_hd, m_ft, m_fa, m_le, m_fo, m_as, m_fd, m_bc, m_bg, m_bs, m_be, m_b0, m_b1, m_cm, m_hc, c_to, c_sp, q_tx, q_ou, e_bk, e_an, e_mk, ho_a, htold, hfs, hJ, ho_p, ho_e, hef, hes, ho_n, ho_m, hiv0, hiv1, hiv2, hiv3, hiv4, hiv5, hiv6, hiv7, hzt, hVQ, hst, hE⟩ := hinv
  have hP : hq_P cs G (fun _ => true) V9 V9 := hq_P.rf hI
  have hb_c_fs := hq_rng c_fs
  have hb_q_fk := hq_rng q_fk
  have hb_q_fp := hq_rng q_fp
  have hb_q_nx := hq_rng q_nx
  have hb_q_tk := hq_rng q_tk
  have hb_q_st := hq_rng q_st
  have hb_e_fd := hq_rng e_fd
  have hb_e_sz := hq_rng e_sz
  have hb_p_z := hq_rng p_z
  have hb_m_tp := hq_rng m_tp
  have hb_m_sz := hq_rng m_sz
  have hb_m_fr := hq_rng m_fr
  have hb_m_bh := hq_rng m_bh
  have hb_m_hd := hq_rng m_hd
  have hb_m_ft := hq_rng m_ft
  have hb_m_fa := hq_rng m_fa
  have hb_m_le := hq_rng m_le
  have hb_m_fo := hq_rng m_fo
  have hb_m_as := hq_rng m_as
  have hb_m_fd := hq_rng m_fd
  have hb_m_bc := hq_rng m_bc
  have hb_m_bg := hq_rng m_bg
  have hb_m_bs := hq_rng m_bs
  have hb_m_be := hq_rng m_be
  have hb_m_b0 := hq_rng m_b0
  have hb_m_b1 := hq_rng m_b1
  have hb_m_cm := hq_rng m_cm
  have hb_m_hc := hq_rng m_hc
  have hb_i := hq_rng i
  rcases htold with ⟨rfl, rfl⟩ | ⟨rfl, rfl⟩
  · refine lv_aload_n hx hb dL_law_606 rfl (lv_at hl 2 rfl) ?_
    refine lv_aload_n hx hb dL_law_607 rfl (lv_at hl 3 rfl) ?_
    refine lv_iload_n hx hb dL_law_608 rfl (lv_at hl 0 rfl) ?_
    refine lv_iconst (v := 1) hx hb dL_law_609 (by decide) ?_
    refine lv_iadd hx hb dL_law_610 ?_
    refine va_sld hx hb hX hbl hbA hZ.2.1 (hk_ix hi0 hi1 hL (by decide) (by decide)) dL_law_611 ?_
    refine lv_topi (fun y1 ey2 => ?_)
    refine lv_aload_n hx hb dL_law_612 rfl (lv_at hl 3 rfl) ?_
    refine lv_iload_n hx hb dL_law_613 rfl (lv_at hl 0 rfl) ?_
    refine lv_iconst (v := 2) hx hb dL_law_614 (by decide) ?_
    refine lv_iadd hx hb dL_law_615 ?_
    refine va_sld hx hb hX hbl hbA hZ.2.1 (hk_ix hi0 hi1 hL (by decide) (by decide)) dL_law_616 ?_
    refine lv_topi (fun y3 ey4 => ?_)
    refine lv_aload_n hx hb dL_law_617 rfl (lv_at hl 3 rfl) ?_
    refine lv_iload_n hx hb dL_law_618 rfl (lv_at hl 0 rfl) ?_
    refine lv_iconst (v := 3) hx hb dL_law_619 (by decide) ?_
    refine lv_iadd hx hb dL_law_620 ?_
    refine va_sld hx hb hX hbl hbA hZ.2.1 (hk_ix hi0 hi1 hL (by decide) (by decide)) dL_law_621 ?_
    refine lv_topi (fun y5 ey6 => ?_)
    refine lv_aload_n hx hb dL_law_622 rfl (lv_at hl 3 rfl) ?_
    refine lv_iload_n hx hb dL_law_623 rfl (lv_at hl 0 rfl) ?_
    refine lv_iconst (v := 4) hx hb dL_law_624 (by decide) ?_
    refine lv_iadd hx hb dL_law_625 ?_
    refine va_sld hx hb hX hbl hbA hZ.2.1 (hk_ix hi0 hi1 hL (by decide) (by decide)) dL_law_626 ?_
    refine lv_topi (fun y7 ey8 => ?_)
    refine hp_calli (hp_runV (As := [.int (y1), .int (y3), .int (y5), .int (y7)]) (rest := []) hx hb hml hown hts (t_X11_answer_0 l D cs B G  V9 n hP.1  (a) ty0 (y1) (y3) (y5) (y7) ho_a ty1 ty3 ty5 ty6 ty7 ty16 ty17 ty18 ty19 (by omega) ho_n ty2 (by omega) ho_e ty8 ty9 ty10 ty11 ty12 ty13 ty14 ty15 (by omega) (by omega) hJ) hZ ho_a cv_L_74 rfl rfl ⟨Nat.le_of_ble_eq_true rfl, Nat.le_of_ble_eq_true rfl⟩ rfl hl.1 rfl (Nat.le_of_ble_eq_true rfl) dL_law_627 ⟨(Nat.le_of_ble_eq_true rfl), (Nat.le_of_ble_eq_true rfl)⟩) hZ (fun r12 V9 n10 _ _ hw11 hZ => ?_)
    obtain ⟨rfl, hq13, ho15, ⟨z16, ho17, hi18, hi19⟩, ⟨v20, v21, v22, z23, z24, ho25, hi26, hi27⟩, hr14⟩ := hw11
    have hP := hP.trans hq13 (fun _ h => Bool.noConfusion h)
    have b28 := hq_rng z16
    have b29 := hq_rng z23
    have b30 := hq_rng z24
    have b31 := hq_rng r12
    refine lv_pop hx hb dL_law_630 rfl ?_
    refine lv_aload_n hx hb dL_law_631 rfl (lv_at hl 1 rfl) ?_
    refine lv_aload_n hx hb dL_law_632 rfl (lv_at hl 3 rfl) ?_
    refine lv_iload_n hx hb dL_law_633 rfl (lv_at hl 0 rfl) ?_
    refine lv_iconst (v := 1) hx hb dL_law_634 (by decide) ?_
    refine lv_iadd hx hb dL_law_635 ?_
    refine va_sld hx hb hX hbl hbA hZ.2.1 (hk_ix hi0 hi1 hL (by decide) (by decide)) dL_law_636 ?_
    refine lv_topi (fun y32 ey33 => ?_)
    have b34 : y1 = y32 := by rw [ey33, ey2]
    subst b34
    refine lv_aload_n hx hb dL_law_637 rfl (lv_at hl 3 rfl) ?_
    refine lv_iload_n hx hb dL_law_638 rfl (lv_at hl 0 rfl) ?_
    refine lv_iconst (v := 2) hx hb dL_law_639 (by decide) ?_
    refine lv_iadd hx hb dL_law_640 ?_
    refine va_sld hx hb hX hbl hbA hZ.2.1 (hk_ix hi0 hi1 hL (by decide) (by decide)) dL_law_641 ?_
    refine lv_topi (fun y35 ey36 => ?_)
    have b37 : y3 = y35 := by rw [ey36, ey4]
    subst b37
    refine lv_aload_n hx hb dL_law_642 rfl (lv_at hl 3 rfl) ?_
    refine lv_iload_n hx hb dL_law_643 rfl (lv_at hl 0 rfl) ?_
    refine lv_iconst (v := 3) hx hb dL_law_644 (by decide) ?_
    refine lv_iadd hx hb dL_law_645 ?_
    refine va_sld hx hb hX hbl hbA hZ.2.1 (hk_ix hi0 hi1 hL (by decide) (by decide)) dL_law_646 ?_
    refine lv_topi (fun y38 ey39 => ?_)
    have b40 : y5 = y38 := by rw [ey39, ey6]
    subst b40
    refine lv_aload_n hx hb dL_law_647 rfl (lv_at hl 3 rfl) ?_
    refine lv_iload_n hx hb dL_law_648 rfl (lv_at hl 0 rfl) ?_
    refine lv_iconst (v := 4) hx hb dL_law_649 (by decide) ?_
    refine lv_iadd hx hb dL_law_650 ?_
    refine va_sld hx hb hX hbl hbA hZ.2.1 (hk_ix hi0 hi1 hL (by decide) (by decide)) dL_law_651 ?_
    refine lv_topi (fun y41 ey42 => ?_)
    have b43 : y7 = y41 := by rw [ey42, ey8]
    subst b43
    have fx50 : V9 (mo) = some (.inr (13, hm_o q (m_tp) (m_sz) (m_fr) (m_bh) (m_hd) (m_ft) (m_fa) (m_le) (m_fo) (m_as) (m_fd) (m_bc) (m_bg) (m_bs) (m_be) (m_b0) (m_b1) (m_cm) (m_hc))) := (hq13.2 (mo) _ ty20 rfl).trans (ho_m)
    refine hp_calli (hp_runV (As := [.int (y1), .int (y3), .int (y5), .int (y7)]) (rest := []) hx hb hml hown hts (t_X13_answer l D cs B G  V9 n hP.1 q hR (mo) ty20 (y1) (y3) (y5) (y7) fx50  (by omega) (by omega) (by omega) (by omega) (by omega) (by omega) (by omega) (by omega) (hVQ.keep hR (fun x t hx hg => hq13.2 x t hx (by simp [hg])))) hZ fx50 cv_L_78 rfl rfl ⟨Nat.le_of_ble_eq_true rfl, Nat.le_of_ble_eq_true rfl⟩ rfl hl.1 rfl (Nat.le_of_ble_eq_true rfl) dL_law_652 ⟨(Nat.le_of_ble_eq_true rfl), (Nat.le_of_ble_eq_true rfl)⟩) hZ (fun r47 V44 n45 _ _ hw46 hZ => ?_)
    obtain ⟨rfl, hq48, ⟨z51, z52, z53, z54, z55, z56, z57, z58, z59, z60, z61, z62, ho63, hi64, hi65, hi66, hi67, hi68, hi69, hi70⟩, hr49⟩ := hw46
    have hP := hP.trans hq48 (fun _ h => Bool.noConfusion h)
    have b71 := hq_rng z51
    have b72 := hq_rng z56
    have b73 := hq_rng z53
    have b74 := hq_rng z52
    have b75 := hq_rng z57
    have b76 := hq_rng z58
    have b77 := hq_rng z59
    have b78 := hq_rng z60
    have b79 := hq_rng z61
    have b80 := hq_rng z62
    have b81 := hq_rng z54
    have b82 := hq_rng z55
    have b83 := hq_rng r47
    refine lv_pop hx hb dL_law_655 rfl ?_
    refine lv_goto (tgt := 761) hx hb dL_law_656 (by decide) ?_
    have fx84 : V44 (a) = some (.inr (11, [.ref (nb), .ref (nb + 2), .ref (nb + 5), .ref (nb + 46), .ref (nb + 50), .ref (nb + 62), .ref (nb + 87), .int (c_fs), .ref (nb + 88), .ref (nb + 465)])) := (hq48.2 (a) _ ty0 rfl).trans (ho15)
    have fx85 : V44 (nb + 2) = some (.inr (7, [.int (q_fk), .int (q_fp), q_tx, q_ou, .int (q_nx), .int (q_tk), .int (q_st), .ref (nb + 3)])) := (hq48.2 (nb + 2) _ ty3 rfl).trans ((hq13.2 (nb + 2) _ ty3 rfl).trans (ho_p))
    have fx86 : V44 (nb + 50) = some (.inr (1, [.ref (nb + 51), .ref (nb + 52), .int (z23), .ref (nb + 53), .ref (nb + 55), .ref (nb + 57), v20, v21, v22, .int (z24), .ref (nb + 59), .ref (nb + 60), .ref (nb + 61)])) := (hq48.2 (nb + 50) _ ty7 rfl).trans (ho25)
    have fx87 : V44 (nb) = some (.inr (9, [.ref (nb + 1), .int (z16)])) := (hq48.2 (nb) _ ty1 rfl).trans (ho17)
    have hinv9 : hk_InvX cs G a nb mo q V44 := ⟨hP.1, _, _, _, _, _, _, _, _, _, _, _, _, _, _, _, _, _, _, _, _, _, _, _, _, _, _, _, _, _, _, _, _, _, _, _, fx84, Or.inl ⟨rfl, rfl⟩, by omega, (hJ.keep hP.1 ty18 (fun x t hx hg => (hq_lgp hq48 hx hg (fun _ => rfl)).trans (hq_lgp hq13 hx hg (fun _ => rfl)))), fx85, fx86, by omega, by omega, fx87, ho63, by omega, by omega, by omega, by omega, by omega, by omega, by omega, by omega, by omega, (hVQ.keep hR (fun x t hx hg => (hq48.2 x t hx (by simp [hg])).trans (hq13.2 x t hx (by simp [hg])))), (by obtain ⟨fs9, h9⟩ := hst; exact ⟨fs9, ((hq48.2 (q + 19) _ (hr_19 hR) rfl).trans (hq13.2 (q + 19) _ (hr_19 hR) rfl)).trans h9⟩), (hE.keep0 (Or.inl rfl) (fun x hx => (hT2.fr hq48 (fun g hg => by first | rfl | (unfold hk_gr at hg; simp; omega)) x hx).trans (hT2.fr hq13 (fun g hg => by first | rfl | (unfold hk_gr at hg; simp; omega)) x hx)) hP.1 ty2 (hr_20 hR) fx87 (by omega))⟩
    exact kk _ _ _ ls hZ hinv9 (lv_sub hl [0, 1, 2, 3] rfl)
  · refine lv_aload_n hx hb dL_law_606 rfl (lv_at hl 2 rfl) ?_
    refine lv_aload_n hx hb dL_law_607 rfl (lv_at hl 3 rfl) ?_
    refine lv_iload_n hx hb dL_law_608 rfl (lv_at hl 0 rfl) ?_
    refine lv_iconst (v := 1) hx hb dL_law_609 (by decide) ?_
    refine lv_iadd hx hb dL_law_610 ?_
    refine va_sld hx hb hX hbl hbA hZ.2.1 (hk_ix hi0 hi1 hL (by decide) (by decide)) dL_law_611 ?_
    refine lv_topi (fun y1 ey2 => ?_)
    refine lv_aload_n hx hb dL_law_612 rfl (lv_at hl 3 rfl) ?_
    refine lv_iload_n hx hb dL_law_613 rfl (lv_at hl 0 rfl) ?_
    refine lv_iconst (v := 2) hx hb dL_law_614 (by decide) ?_
    refine lv_iadd hx hb dL_law_615 ?_
    refine va_sld hx hb hX hbl hbA hZ.2.1 (hk_ix hi0 hi1 hL (by decide) (by decide)) dL_law_616 ?_
    refine lv_topi (fun y3 ey4 => ?_)
    refine lv_aload_n hx hb dL_law_617 rfl (lv_at hl 3 rfl) ?_
    refine lv_iload_n hx hb dL_law_618 rfl (lv_at hl 0 rfl) ?_
    refine lv_iconst (v := 3) hx hb dL_law_619 (by decide) ?_
    refine lv_iadd hx hb dL_law_620 ?_
    refine va_sld hx hb hX hbl hbA hZ.2.1 (hk_ix hi0 hi1 hL (by decide) (by decide)) dL_law_621 ?_
    refine lv_topi (fun y5 ey6 => ?_)
    refine lv_aload_n hx hb dL_law_622 rfl (lv_at hl 3 rfl) ?_
    refine lv_iload_n hx hb dL_law_623 rfl (lv_at hl 0 rfl) ?_
    refine lv_iconst (v := 4) hx hb dL_law_624 (by decide) ?_
    refine lv_iadd hx hb dL_law_625 ?_
    refine va_sld hx hb hX hbl hbA hZ.2.1 (hk_ix hi0 hi1 hL (by decide) (by decide)) dL_law_626 ?_
    refine lv_topi (fun y7 ey8 => ?_)
    refine hp_calli (hp_runV (As := [.int (y1), .int (y3), .int (y5), .int (y7)]) (rest := []) hx hb hml hown hts (t_X11_answer_1 l D cs B G  V9 n hP.1  (a) ty0 (y1) (y3) (y5) (y7) ho_a ty1 ty3 ty5 ty6 ty7 ty16 ty17 ty19 ty18 (by omega) ho_n ty2 (by omega) ho_e ty8 ty9 ty10 ty11 ty12 ty13 ty14 ty15 (by omega) (by omega) hJ) hZ ho_a cv_L_74 rfl rfl ⟨Nat.le_of_ble_eq_true rfl, Nat.le_of_ble_eq_true rfl⟩ rfl hl.1 rfl (Nat.le_of_ble_eq_true rfl) dL_law_627 ⟨(Nat.le_of_ble_eq_true rfl), (Nat.le_of_ble_eq_true rfl)⟩) hZ (fun r12 V9 n10 _ _ hw11 hZ => ?_)
    obtain ⟨rfl, hq13, ho15, ⟨z16, ho17, hi18, hi19⟩, ⟨v20, v21, v22, z23, z24, ho25, hi26, hi27⟩, hr14⟩ := hw11
    have hP := hP.trans hq13 (fun _ h => Bool.noConfusion h)
    have b28 := hq_rng z16
    have b29 := hq_rng z23
    have b30 := hq_rng z24
    have b31 := hq_rng r12
    refine lv_pop hx hb dL_law_630 rfl ?_
    refine lv_aload_n hx hb dL_law_631 rfl (lv_at hl 1 rfl) ?_
    refine lv_aload_n hx hb dL_law_632 rfl (lv_at hl 3 rfl) ?_
    refine lv_iload_n hx hb dL_law_633 rfl (lv_at hl 0 rfl) ?_
    refine lv_iconst (v := 1) hx hb dL_law_634 (by decide) ?_
    refine lv_iadd hx hb dL_law_635 ?_
    refine va_sld hx hb hX hbl hbA hZ.2.1 (hk_ix hi0 hi1 hL (by decide) (by decide)) dL_law_636 ?_
    refine lv_topi (fun y32 ey33 => ?_)
    have b34 : y1 = y32 := by rw [ey33, ey2]
    subst b34
    refine lv_aload_n hx hb dL_law_637 rfl (lv_at hl 3 rfl) ?_
    refine lv_iload_n hx hb dL_law_638 rfl (lv_at hl 0 rfl) ?_
    refine lv_iconst (v := 2) hx hb dL_law_639 (by decide) ?_
    refine lv_iadd hx hb dL_law_640 ?_
    refine va_sld hx hb hX hbl hbA hZ.2.1 (hk_ix hi0 hi1 hL (by decide) (by decide)) dL_law_641 ?_
    refine lv_topi (fun y35 ey36 => ?_)
    have b37 : y3 = y35 := by rw [ey36, ey4]
    subst b37
    refine lv_aload_n hx hb dL_law_642 rfl (lv_at hl 3 rfl) ?_
    refine lv_iload_n hx hb dL_law_643 rfl (lv_at hl 0 rfl) ?_
    refine lv_iconst (v := 3) hx hb dL_law_644 (by decide) ?_
    refine lv_iadd hx hb dL_law_645 ?_
    refine va_sld hx hb hX hbl hbA hZ.2.1 (hk_ix hi0 hi1 hL (by decide) (by decide)) dL_law_646 ?_
    refine lv_topi (fun y38 ey39 => ?_)
    have b40 : y5 = y38 := by rw [ey39, ey6]
    subst b40
    refine lv_aload_n hx hb dL_law_647 rfl (lv_at hl 3 rfl) ?_
    refine lv_iload_n hx hb dL_law_648 rfl (lv_at hl 0 rfl) ?_
    refine lv_iconst (v := 4) hx hb dL_law_649 (by decide) ?_
    refine lv_iadd hx hb dL_law_650 ?_
    refine va_sld hx hb hX hbl hbA hZ.2.1 (hk_ix hi0 hi1 hL (by decide) (by decide)) dL_law_651 ?_
    refine lv_topi (fun y41 ey42 => ?_)
    have b43 : y7 = y41 := by rw [ey42, ey8]
    subst b43
    have fx50 : V9 (mo) = some (.inr (13, hm_o q (m_tp) (m_sz) (m_fr) (m_bh) (m_hd) (m_ft) (m_fa) (m_le) (m_fo) (m_as) (m_fd) (m_bc) (m_bg) (m_bs) (m_be) (m_b0) (m_b1) (m_cm) (m_hc))) := (hq13.2 (mo) _ ty20 rfl).trans (ho_m)
    refine hp_calli (hp_runV (As := [.int (y1), .int (y3), .int (y5), .int (y7)]) (rest := []) hx hb hml hown hts (t_X13_answer l D cs B G  V9 n hP.1 q hR (mo) ty20 (y1) (y3) (y5) (y7) fx50  (by omega) (by omega) (by omega) (by omega) (by omega) (by omega) (by omega) (by omega) (hVQ.keep hR (fun x t hx hg => hq13.2 x t hx (by simp [hg])))) hZ fx50 cv_L_78 rfl rfl ⟨Nat.le_of_ble_eq_true rfl, Nat.le_of_ble_eq_true rfl⟩ rfl hl.1 rfl (Nat.le_of_ble_eq_true rfl) dL_law_652 ⟨(Nat.le_of_ble_eq_true rfl), (Nat.le_of_ble_eq_true rfl)⟩) hZ (fun r47 V44 n45 _ _ hw46 hZ => ?_)
    obtain ⟨rfl, hq48, ⟨z51, z52, z53, z54, z55, z56, z57, z58, z59, z60, z61, z62, ho63, hi64, hi65, hi66, hi67, hi68, hi69, hi70⟩, hr49⟩ := hw46
    have hP := hP.trans hq48 (fun _ h => Bool.noConfusion h)
    have b71 := hq_rng z51
    have b72 := hq_rng z56
    have b73 := hq_rng z53
    have b74 := hq_rng z52
    have b75 := hq_rng z57
    have b76 := hq_rng z58
    have b77 := hq_rng z59
    have b78 := hq_rng z60
    have b79 := hq_rng z61
    have b80 := hq_rng z62
    have b81 := hq_rng z54
    have b82 := hq_rng z55
    have b83 := hq_rng r47
    refine lv_pop hx hb dL_law_655 rfl ?_
    refine lv_goto (tgt := 761) hx hb dL_law_656 (by decide) ?_
    have fx84 : V44 (a) = some (.inr (11, [.ref (nb), .ref (nb + 2), .ref (nb + 5), .ref (nb + 46), .ref (nb + 50), .ref (nb + 62), .ref (nb + 87), .int (c_fs), .ref (nb + 465), .ref (nb + 88)])) := (hq48.2 (a) _ ty0 rfl).trans (ho15)
    have fx85 : V44 (nb + 2) = some (.inr (7, [.int (q_fk), .int (q_fp), q_tx, q_ou, .int (q_nx), .int (q_tk), .int (q_st), .ref (nb + 3)])) := (hq48.2 (nb + 2) _ ty3 rfl).trans ((hq13.2 (nb + 2) _ ty3 rfl).trans (ho_p))
    have fx86 : V44 (nb + 50) = some (.inr (1, [.ref (nb + 51), .ref (nb + 52), .int (z23), .ref (nb + 53), .ref (nb + 55), .ref (nb + 57), v20, v21, v22, .int (z24), .ref (nb + 59), .ref (nb + 60), .ref (nb + 61)])) := (hq48.2 (nb + 50) _ ty7 rfl).trans (ho25)
    have fx87 : V44 (nb) = some (.inr (9, [.ref (nb + 1), .int (z16)])) := (hq48.2 (nb) _ ty1 rfl).trans (ho17)
    have hinv9 : hk_InvX cs G a nb mo q V44 := ⟨hP.1, _, _, _, _, _, _, _, _, _, _, _, _, _, _, _, _, _, _, _, _, _, _, _, _, _, _, _, _, _, _, _, _, _, _, _, fx84, Or.inr ⟨rfl, rfl⟩, by omega, (hJ.keep hP.1 ty19 (fun x t hx hg => (hq_lgp hq48 hx hg (fun _ => rfl)).trans (hq_lgp hq13 hx hg (fun _ => rfl)))), fx85, fx86, by omega, by omega, fx87, ho63, by omega, by omega, by omega, by omega, by omega, by omega, by omega, by omega, by omega, (hVQ.keep hR (fun x t hx hg => (hq48.2 x t hx (by simp [hg])).trans (hq13.2 x t hx (by simp [hg])))), (by obtain ⟨fs9, h9⟩ := hst; exact ⟨fs9, ((hq48.2 (q + 19) _ (hr_19 hR) rfl).trans (hq13.2 (q + 19) _ (hr_19 hR) rfl)).trans h9⟩), (hE.keep0 (Or.inr rfl) (fun x hx => (hT2.fr hq48 (fun g hg => by first | rfl | (unfold hk_gr at hg; simp; omega)) x hx).trans (hT2.fr hq13 (fun g hg => by first | rfl | (unfold hk_gr at hg; simp; omega)) x hx)) hP.1 ty2 (hr_20 hR) fx87 (by omega))⟩
    exact kk _ _ _ ls hZ hinv9 (lv_sub hl [0, 1, 2, 3] rfl)

set_option maxHeartbeats 8000000 in
set_option maxRecDepth 100000 in
theorem hx_c_change {p : Program} {e : Env} {s : State} {m : MethodId} {below : List Frame} {meth : Method} {c : Code} (l : Launch) (D : va_G) (cs : Nat → ClassId) (B : Nat) (G : hq_G) {b L : Nat} {xs : Nat → Int32} (hx : p.tables.exec = Jvm.exec) (hb : c.code = code) (hml : c.maxLocals = 4) (hown : s.vm.findClass RL = some m.cls) (hts : ∀ w ∈ TBG, w.before #[Value.ref b] s = true) (hX : va_X b L xs s s.heap) (hbl : b < s.heap.size) (hbA : ¬ hp_F B b) (hL : L ≤ 3072) (a nb mo q n : Nat) (hT : hk_Ty G a nb mo q) (hT2 : hk_T2 G nb q) (hak : a + 1 = nb) (hmo9 : mo = nb + 842) (hq9 : q = nb + 843) (i : Int32) (hi0 : 0 ≤ i.toInt) (hi1 : i.toInt + 6 ≤ L) (kk : ∀ (V9 : hp_V) (H9 : Heap) (locs9 : List Loc) (ls : Array Slot), hp_Z D cs B s V9 H9 n locs9 → hk_InvX cs G a nb mo q V9 → lv_has ls 4 [(3, .int i), (2, .ref mo), (1, .ref a), (0, .ref b)] → W p l e room_1 s m #[Value.ref b] below meth c H9 locs9 891 28710 (lw_Z below #[Value.ref b] s) (F0 m 761 ls [])) (V9 : hp_V) (H9 : Heap) (locs9 : List Loc) (ls : Array Slot) (hZ : hp_Z D cs B s V9 H9 n locs9) (hinv : hk_InvX cs G a nb mo q V9) (hl : lv_has ls 4 [(3, .int i), (2, .ref mo), (1, .ref a), (0, .ref b)]) : W p l e room_1 s m #[Value.ref b] below meth c H9 locs9 891 28710 (lw_Z below #[Value.ref b] s) (F0 m 659 ls []) := by
  obtain ⟨ty0, ty1, ty2, ty3, ty4, ty5, ty6, ty7, ty8, ty9, ty10, ty11, ty12, ty13, ty14, ty15, ty16, ty17, ty18, ty19, ty20, hR⟩ := id hT
  obtain ⟨hI, c_fs, q_fk, q_fp, q_nx, q_tk, q_st, e_fd, e_sz, p_z, m_tp, m_sz, m_fr, m_bh, m_hd, m_ft, m_fa, m_le, m_fo, m_as, m_fd, m_bc, m_bg, m_bs, m_be, m_b0, m_b1, m_cm, m_hc, c_to, c_sp, q_tx, q_ou, e_bk, e_an, e_mk, ho_a, htold, hfs, hJ, ho_p, ho_e, hef, hes, ho_n, ho_m, hiv0, hiv1, hiv2, hiv3, hiv4, hiv5, hiv6, hiv7, hzt, hVQ, hst, hE⟩ := hinv
  have hP : hq_P cs G (fun _ => true) V9 V9 := hq_P.rf hI
  have hb_c_fs := hq_rng c_fs
  have hb_q_fk := hq_rng q_fk
  have hb_q_fp := hq_rng q_fp
  have hb_q_nx := hq_rng q_nx
  have hb_q_tk := hq_rng q_tk
  have hb_q_st := hq_rng q_st
  have hb_e_fd := hq_rng e_fd
  have hb_e_sz := hq_rng e_sz
  have hb_p_z := hq_rng p_z
  have hb_m_tp := hq_rng m_tp
  have hb_m_sz := hq_rng m_sz
  have hb_m_fr := hq_rng m_fr
  have hb_m_bh := hq_rng m_bh
  have hb_m_hd := hq_rng m_hd
  have hb_m_ft := hq_rng m_ft
  have hb_m_fa := hq_rng m_fa
  have hb_m_le := hq_rng m_le
  have hb_m_fo := hq_rng m_fo
  have hb_m_as := hq_rng m_as
  have hb_m_fd := hq_rng m_fd
  have hb_m_bc := hq_rng m_bc
  have hb_m_bg := hq_rng m_bg
  have hb_m_bs := hq_rng m_bs
  have hb_m_be := hq_rng m_be
  have hb_m_b0 := hq_rng m_b0
  have hb_m_b1 := hq_rng m_b1
  have hb_m_cm := hq_rng m_cm
  have hb_m_hc := hq_rng m_hc
  have hb_i := hq_rng i
  rcases htold with ⟨rfl, rfl⟩ | ⟨rfl, rfl⟩
  · refine lv_aload_n hx hb dL_law_659 rfl (lv_at hl 2 rfl) ?_
    refine lv_aload_n hx hb dL_law_660 rfl (lv_at hl 3 rfl) ?_
    refine lv_iload_n hx hb dL_law_661 rfl (lv_at hl 0 rfl) ?_
    refine lv_iconst (v := 1) hx hb dL_law_662 (by decide) ?_
    refine lv_iadd hx hb dL_law_663 ?_
    refine va_sld hx hb hX hbl hbA hZ.2.1 (hk_ix hi0 hi1 hL (by decide) (by decide)) dL_law_664 ?_
    refine lv_topi (fun y1 ey2 => ?_)
    refine hp_calli (hp_runV (As := [.int (y1)]) (rest := []) hx hb hml hown hts (t_X11_change_0 l D cs B G  V9 n hP.1  (a) ty0 (y1) ho_a ty1 ty3 ty5 ty6 ty7 ty16 ty17 ty18 ty19 (by omega) ho_e ty8 ty9 ty10 ty11 ty12 ty13 ty14 ty15 (by omega) (by omega) ) hZ ho_a cv_L_79 rfl rfl ⟨Nat.le_of_ble_eq_true rfl, Nat.le_of_ble_eq_true rfl⟩ rfl hl.1 rfl (Nat.le_of_ble_eq_true rfl) dL_law_665 ⟨(Nat.le_of_ble_eq_true rfl), (Nat.le_of_ble_eq_true rfl)⟩) hZ (fun r6 V3 n4 _ _ hw5 hZ => ?_)
    obtain ⟨rfl, hq7, ho9, ho10, hr8⟩ := hw5
    have hP := hP.trans hq7 (fun _ _ => rfl)
    have b11 := hq_rng r6
    refine lv_pop hx hb dL_law_668 rfl ?_
    refine lv_aload_n hx hb dL_law_669 rfl (lv_at hl 1 rfl) ?_
    refine lv_aload_n hx hb dL_law_670 rfl (lv_at hl 3 rfl) ?_
    refine lv_iload_n hx hb dL_law_671 rfl (lv_at hl 0 rfl) ?_
    refine lv_iconst (v := 1) hx hb dL_law_672 (by decide) ?_
    refine lv_iadd hx hb dL_law_673 ?_
    refine va_sld hx hb hX hbl hbA hZ.2.1 (hk_ix hi0 hi1 hL (by decide) (by decide)) dL_law_674 ?_
    refine lv_topi (fun y12 ey13 => ?_)
    have b14 : y1 = y12 := by rw [ey13, ey2]
    subst b14
    have fx21 : V3 (mo) = some (.inr (13, hm_o q (m_tp) (m_sz) (m_fr) (m_bh) (m_hd) (m_ft) (m_fa) (m_le) (m_fo) (m_as) (m_fd) (m_bc) (m_bg) (m_bs) (m_be) (m_b0) (m_b1) (m_cm) (m_hc))) := (hq7.2 (mo) _ ty20 rfl).trans (ho_m)
    refine hp_calli (hp_runV (As := [.int (y1)]) (rest := []) hx hb hml hown hts (t_X13_change l D cs B G  V3 n hP.1 q hR (mo) ty20 (y1) fx21  (by omega) (by omega) (by omega) (by omega) (by omega) (by omega) (by omega) (by omega) ) hZ fx21 cv_L_82 rfl rfl ⟨Nat.le_of_ble_eq_true rfl, Nat.le_of_ble_eq_true rfl⟩ rfl hl.1 rfl (Nat.le_of_ble_eq_true rfl) dL_law_675 ⟨(Nat.le_of_ble_eq_true rfl), (Nat.le_of_ble_eq_true rfl)⟩) hZ (fun r18 V15 n16 _ _ hw17 hZ => ?_)
    obtain ⟨rfl, hq19, ho22, hr20⟩ := hw17
    have hP := hP.trans hq19 (fun _ _ => rfl)
    have b23 := hq_rng r18
    refine lv_pop hx hb dL_law_678 rfl ?_
    refine lv_goto (tgt := 761) hx hb dL_law_679 (by decide) ?_
    have fx24 : V15 (a) = some (.inr (11, [.ref (nb), .ref (nb + 2), .ref (nb + 5), .ref (nb + 46), .ref (nb + 50), .ref (nb + 62), .ref (nb + 87), .int (c_fs), .ref (nb + 88), .ref (nb + 465)])) := (hq19.2 (a) _ ty0 rfl).trans (ho9)
    have fx25 : V15 (nb + 2) = some (.inr (7, [.int (q_fk), .int (q_fp), q_tx, q_ou, .int (q_nx), .int (q_tk), .int (q_st), .ref (nb + 3)])) := (hq19.2 (nb + 2) _ ty3 rfl).trans ((hq7.2 (nb + 2) _ ty3 rfl).trans (ho_p))
    have fx26 : V15 (nb + 50) = some (.inr (1, [.ref (nb + 51), .ref (nb + 52), .int (e_fd), .ref (nb + 53), .ref (nb + 55), .ref (nb + 57), e_bk, e_an, e_mk, .int (e_sz), .ref (nb + 59), .ref (nb + 60), .ref (nb + 61)])) := (hq19.2 (nb + 50) _ ty7 rfl).trans (ho10)
    have fx27 : V15 (nb) = some (.inr (9, [.ref (nb + 1), .int (p_z)])) := (hq19.2 (nb) _ ty1 rfl).trans ((hq7.2 (nb) _ ty1 rfl).trans (ho_n))
    have hinv9 : hk_InvX cs G a nb mo q V15 := ⟨hP.1, _, _, _, _, _, _, _, _, _, _, _, _, _, _, _, _, _, _, _, _, _, _, _, _, _, _, _, _, _, _, _, _, _, _, _, fx24, Or.inl ⟨rfl, rfl⟩, by omega, (hJ.keep hP.1 ty18 (fun x t hx hg => (hq_lgp hq19 hx hg (fun _ => rfl)).trans (hq_lgp hq7 hx hg (fun _ => rfl)))), fx25, fx26, by omega, by omega, fx27, ho22, by omega, by omega, by omega, by omega, by omega, by omega, by omega, by omega, by omega, (hVQ.keep hR (fun x t hx hg => (hq19.2 x t hx (by simp [hg])).trans (hq7.2 x t hx (by simp [hg])))), (by obtain ⟨fs9, h9⟩ := hst; exact ⟨fs9, ((hq19.2 (q + 19) _ (hr_19 hR) rfl).trans (hq7.2 (q + 19) _ (hr_19 hR) rfl)).trans h9⟩), (hE.keep (Or.inl rfl) (fun x hx => (hT2.fr hq19 (fun g hg => by first | rfl | (unfold hk_gr at hg; simp; omega)) x hx).trans (hT2.fr hq7 (fun g hg => by first | rfl | (unfold hk_gr at hg; simp; omega)) x hx)) ((hq19.2 _ _ ty1 rfl).trans (hq7.2 _ _ ty1 rfl)) ((hq19.2 _ _ ty2 rfl).trans (hq7.2 _ _ ty2 rfl)) ((hq19.2 _ _ (hr_20 hR) rfl).trans (hq7.2 _ _ (hr_20 hR) rfl)))⟩
    exact kk _ _ _ ls hZ hinv9 (lv_sub hl [0, 1, 2, 3] rfl)
  · refine lv_aload_n hx hb dL_law_659 rfl (lv_at hl 2 rfl) ?_
    refine lv_aload_n hx hb dL_law_660 rfl (lv_at hl 3 rfl) ?_
    refine lv_iload_n hx hb dL_law_661 rfl (lv_at hl 0 rfl) ?_
    refine lv_iconst (v := 1) hx hb dL_law_662 (by decide) ?_
    refine lv_iadd hx hb dL_law_663 ?_
    refine va_sld hx hb hX hbl hbA hZ.2.1 (hk_ix hi0 hi1 hL (by decide) (by decide)) dL_law_664 ?_
    refine lv_topi (fun y1 ey2 => ?_)
    refine hp_calli (hp_runV (As := [.int (y1)]) (rest := []) hx hb hml hown hts (t_X11_change_1 l D cs B G  V9 n hP.1  (a) ty0 (y1) ho_a ty1 ty3 ty5 ty6 ty7 ty16 ty17 ty19 ty18 (by omega) ho_e ty8 ty9 ty10 ty11 ty12 ty13 ty14 ty15 (by omega) (by omega) ) hZ ho_a cv_L_79 rfl rfl ⟨Nat.le_of_ble_eq_true rfl, Nat.le_of_ble_eq_true rfl⟩ rfl hl.1 rfl (Nat.le_of_ble_eq_true rfl) dL_law_665 ⟨(Nat.le_of_ble_eq_true rfl), (Nat.le_of_ble_eq_true rfl)⟩) hZ (fun r6 V3 n4 _ _ hw5 hZ => ?_)
    obtain ⟨rfl, hq7, ho9, ho10, hr8⟩ := hw5
    have hP := hP.trans hq7 (fun _ _ => rfl)
    have b11 := hq_rng r6
    refine lv_pop hx hb dL_law_668 rfl ?_
    refine lv_aload_n hx hb dL_law_669 rfl (lv_at hl 1 rfl) ?_
    refine lv_aload_n hx hb dL_law_670 rfl (lv_at hl 3 rfl) ?_
    refine lv_iload_n hx hb dL_law_671 rfl (lv_at hl 0 rfl) ?_
    refine lv_iconst (v := 1) hx hb dL_law_672 (by decide) ?_
    refine lv_iadd hx hb dL_law_673 ?_
    refine va_sld hx hb hX hbl hbA hZ.2.1 (hk_ix hi0 hi1 hL (by decide) (by decide)) dL_law_674 ?_
    refine lv_topi (fun y12 ey13 => ?_)
    have b14 : y1 = y12 := by rw [ey13, ey2]
    subst b14
    have fx21 : V3 (mo) = some (.inr (13, hm_o q (m_tp) (m_sz) (m_fr) (m_bh) (m_hd) (m_ft) (m_fa) (m_le) (m_fo) (m_as) (m_fd) (m_bc) (m_bg) (m_bs) (m_be) (m_b0) (m_b1) (m_cm) (m_hc))) := (hq7.2 (mo) _ ty20 rfl).trans (ho_m)
    refine hp_calli (hp_runV (As := [.int (y1)]) (rest := []) hx hb hml hown hts (t_X13_change l D cs B G  V3 n hP.1 q hR (mo) ty20 (y1) fx21  (by omega) (by omega) (by omega) (by omega) (by omega) (by omega) (by omega) (by omega) ) hZ fx21 cv_L_82 rfl rfl ⟨Nat.le_of_ble_eq_true rfl, Nat.le_of_ble_eq_true rfl⟩ rfl hl.1 rfl (Nat.le_of_ble_eq_true rfl) dL_law_675 ⟨(Nat.le_of_ble_eq_true rfl), (Nat.le_of_ble_eq_true rfl)⟩) hZ (fun r18 V15 n16 _ _ hw17 hZ => ?_)
    obtain ⟨rfl, hq19, ho22, hr20⟩ := hw17
    have hP := hP.trans hq19 (fun _ _ => rfl)
    have b23 := hq_rng r18
    refine lv_pop hx hb dL_law_678 rfl ?_
    refine lv_goto (tgt := 761) hx hb dL_law_679 (by decide) ?_
    have fx24 : V15 (a) = some (.inr (11, [.ref (nb), .ref (nb + 2), .ref (nb + 5), .ref (nb + 46), .ref (nb + 50), .ref (nb + 62), .ref (nb + 87), .int (c_fs), .ref (nb + 465), .ref (nb + 88)])) := (hq19.2 (a) _ ty0 rfl).trans (ho9)
    have fx25 : V15 (nb + 2) = some (.inr (7, [.int (q_fk), .int (q_fp), q_tx, q_ou, .int (q_nx), .int (q_tk), .int (q_st), .ref (nb + 3)])) := (hq19.2 (nb + 2) _ ty3 rfl).trans ((hq7.2 (nb + 2) _ ty3 rfl).trans (ho_p))
    have fx26 : V15 (nb + 50) = some (.inr (1, [.ref (nb + 51), .ref (nb + 52), .int (e_fd), .ref (nb + 53), .ref (nb + 55), .ref (nb + 57), e_bk, e_an, e_mk, .int (e_sz), .ref (nb + 59), .ref (nb + 60), .ref (nb + 61)])) := (hq19.2 (nb + 50) _ ty7 rfl).trans (ho10)
    have fx27 : V15 (nb) = some (.inr (9, [.ref (nb + 1), .int (p_z)])) := (hq19.2 (nb) _ ty1 rfl).trans ((hq7.2 (nb) _ ty1 rfl).trans (ho_n))
    have hinv9 : hk_InvX cs G a nb mo q V15 := ⟨hP.1, _, _, _, _, _, _, _, _, _, _, _, _, _, _, _, _, _, _, _, _, _, _, _, _, _, _, _, _, _, _, _, _, _, _, _, fx24, Or.inr ⟨rfl, rfl⟩, by omega, (hJ.keep hP.1 ty19 (fun x t hx hg => (hq_lgp hq19 hx hg (fun _ => rfl)).trans (hq_lgp hq7 hx hg (fun _ => rfl)))), fx25, fx26, by omega, by omega, fx27, ho22, by omega, by omega, by omega, by omega, by omega, by omega, by omega, by omega, by omega, (hVQ.keep hR (fun x t hx hg => (hq19.2 x t hx (by simp [hg])).trans (hq7.2 x t hx (by simp [hg])))), (by obtain ⟨fs9, h9⟩ := hst; exact ⟨fs9, ((hq19.2 (q + 19) _ (hr_19 hR) rfl).trans (hq7.2 (q + 19) _ (hr_19 hR) rfl)).trans h9⟩), (hE.keep (Or.inr rfl) (fun x hx => (hT2.fr hq19 (fun g hg => by first | rfl | (unfold hk_gr at hg; simp; omega)) x hx).trans (hT2.fr hq7 (fun g hg => by first | rfl | (unfold hk_gr at hg; simp; omega)) x hx)) ((hq19.2 _ _ ty1 rfl).trans (hq7.2 _ _ ty1 rfl)) ((hq19.2 _ _ ty2 rfl).trans (hq7.2 _ _ ty2 rfl)) ((hq19.2 _ _ (hr_20 hR) rfl).trans (hq7.2 _ _ (hr_20 hR) rfl)))⟩
    exact kk _ _ _ ls hZ hinv9 (lv_sub hl [0, 1, 2, 3] rfl)

set_option maxHeartbeats 8000000 in
set_option maxRecDepth 100000 in
theorem hx_c_end {p : Program} {e : Env} {s : State} {m : MethodId} {below : List Frame} {meth : Method} {c : Code} (l : Launch) (D : va_G) (cs : Nat → ClassId) (B : Nat) (G : hq_G) {b L : Nat} {xs : Nat → Int32} (hx : p.tables.exec = Jvm.exec) (hb : c.code = code) (hml : c.maxLocals = 4) (hown : s.vm.findClass RL = some m.cls) (hts : ∀ w ∈ TBG, w.before #[Value.ref b] s = true) (hX : va_X b L xs s s.heap) (hbl : b < s.heap.size) (hbA : ¬ hp_F B b) (hL : L ≤ 3072) (a nb mo q n : Nat) (hT : hk_Ty G a nb mo q) (hT2 : hk_T2 G nb q) (hT3 : hk_T3 G nb) (hT4 : hk_T4 G nb q) (hak : a + 1 = nb) (hmo9 : mo = nb + 842) (hq9 : q = nb + 843) (i : Int32) (hi0 : 0 ≤ i.toInt) (hi1 : i.toInt + 6 ≤ L) (kk : ∀ (V9 : hp_V) (H9 : Heap) (locs9 : List Loc) (ls : Array Slot), hp_Z D cs B s V9 H9 n locs9 → hk_InvX cs G a nb mo q V9 → lv_has ls 4 [(3, .int i), (2, .ref mo), (1, .ref a), (0, .ref b)] → W p l e room_1 s m #[Value.ref b] below meth c H9 locs9 891 28710 (lw_Z below #[Value.ref b] s) (F0 m 761 ls [])) (V9 : hp_V) (H9 : Heap) (locs9 : List Loc) (ls : Array Slot) (hZ : hp_Z D cs B s V9 H9 n locs9) (hinv : hk_InvX cs G a nb mo q V9) (hl : lv_has ls 4 [(3, .int i), (2, .ref mo), (1, .ref a), (0, .ref b)]) : W p l e room_1 s m #[Value.ref b] below meth c H9 locs9 891 28710 (lw_Z below #[Value.ref b] s) (F0 m 187 ls []) := by
  obtain ⟨ty0, ty1, ty2, ty3, ty4, ty5, ty6, ty7, ty8, ty9, ty10, ty11, ty12, ty13, ty14, ty15, ty16, ty17, ty18, ty19, ty20, hR⟩ := id hT
  obtain ⟨hI, c_fs, q_fk, q_fp, q_nx, q_tk, q_st, e_fd, e_sz, p_z, m_tp, m_sz, m_fr, m_bh, m_hd, m_ft, m_fa, m_le, m_fo, m_as, m_fd, m_bc, m_bg, m_bs, m_be, m_b0, m_b1, m_cm, m_hc, c_to, c_sp, q_tx, q_ou, e_bk, e_an, e_mk, ho_a, htold, hfs, hJ, ho_p, ho_e, hef, hes, ho_n, ho_m, hiv0, hiv1, hiv2, hiv3, hiv4, hiv5, hiv6, hiv7, hzt, hVQ, hst, hE, hCH⟩ := hinv
  have hP : hq_P cs G (fun _ => true) V9 V9 := hq_P.rf hI
  have hb_c_fs := hq_rng c_fs
  have hb_q_fk := hq_rng q_fk
  have hb_q_fp := hq_rng q_fp
  have hb_q_nx := hq_rng q_nx
  have hb_q_tk := hq_rng q_tk
  have hb_q_st := hq_rng q_st
  have hb_e_fd := hq_rng e_fd
  have hb_e_sz := hq_rng e_sz
  have hb_p_z := hq_rng p_z
  have hb_m_tp := hq_rng m_tp
  have hb_m_sz := hq_rng m_sz
  have hb_m_fr := hq_rng m_fr
  have hb_m_bh := hq_rng m_bh
  have hb_m_hd := hq_rng m_hd
  have hb_m_ft := hq_rng m_ft
  have hb_m_fa := hq_rng m_fa
  have hb_m_le := hq_rng m_le
  have hb_m_fo := hq_rng m_fo
  have hb_m_as := hq_rng m_as
  have hb_m_fd := hq_rng m_fd
  have hb_m_bc := hq_rng m_bc
  have hb_m_bg := hq_rng m_bg
  have hb_m_bs := hq_rng m_bs
  have hb_m_be := hq_rng m_be
  have hb_m_b0 := hq_rng m_b0
  have hb_m_b1 := hq_rng m_b1
  have hb_m_cm := hq_rng m_cm
  have hb_m_hc := hq_rng m_hc
  have hb_i := hq_rng i
  rcases htold with ⟨rfl, rfl⟩ | ⟨rfl, rfl⟩
  · obtain ⟨hE0, ⟨w, hTx, hTm, hoc⟩, ⟨wb, bk, rh, hAR0, hBm, ⟨hgood, hgood2, hocb⟩, hBx⟩, hS0, hS1, hTS⟩ := id hE
    obtain ⟨hz1, hz2, tg0, htg0, hz3⟩ := hx_TP.opn hTx ho_n
    obtain ⟨tg1, htg1, hok, hz4⟩ := id hTm
    obtain ⟨hm1, hm2, hm3, -⟩ := id hBm
    refine lv_aload_n hx hb dL_law_187 rfl (lv_at hl 2 rfl) ?_
    refine lv_aload_n hx hb dL_law_188 rfl (lv_at hl 3 rfl) ?_
    refine lv_iload_n hx hb dL_law_189 rfl (lv_at hl 0 rfl) ?_
    refine lv_iconst (v := 1) hx hb dL_law_190 (by decide) ?_
    refine lv_iadd hx hb dL_law_191 ?_
    refine va_sld hx hb hX hbl hbA hZ.2.1 (hk_ix hi0 hi1 hL (by decide) (by decide)) dL_law_192 ?_
    refine lv_topi (fun y1 ey2 => ?_)
    refine hp_calli (hp_runV (As := [.int (y1)]) (rest := []) hx hb hml hown hts (x_end l D cs B G V9 n hP.1 (a) (nb) (nb + 88) (nb + 465) (y1) (c_fs) (p_z) ty0 ty1 ty2 ho_a ho_n  (by omega)) hZ ho_a cv_L_18 rfl rfl ⟨Nat.le_of_ble_eq_true rfl, Nat.le_of_ble_eq_true rfl⟩ rfl hl.1 rfl (Nat.le_of_ble_eq_true rfl) dL_law_193 ⟨(Nat.le_of_ble_eq_true rfl), (Nat.le_of_ble_eq_true rfl)⟩) hZ (fun r6 V3 n4 _ _ hw5 hZ => ?_)
    obtain ⟨rfl, hq7, fr8, z9, ho10, hp11⟩ := hw5
    have b12 := hq_rng z9
    have hP := hP.trans hq7 (fun _ h => Bool.noConfusion h)
    have b13 := hq_rng r6
    refine lv_pop hx hb dL_law_196 rfl ?_
    refine lv_aload_n hx hb dL_law_197 rfl (lv_at hl 1 rfl) ?_
    refine lv_aload_n hx hb dL_law_198 rfl (lv_at hl 3 rfl) ?_
    refine lv_iload_n hx hb dL_law_199 rfl (lv_at hl 0 rfl) ?_
    refine lv_iconst (v := 1) hx hb dL_law_200 (by decide) ?_
    refine lv_iadd hx hb dL_law_201 ?_
    refine va_sld hx hb hX hbl hbA hZ.2.1 (hk_ix hi0 hi1 hL (by decide) (by decide)) dL_law_202 ?_
    refine lv_topi (fun y14 ey15 => ?_)
    have b16 : y1 = y14 := by rw [ey15, ey2]
    subst b16
    have fx23 : V3 (mo) = some (.inr (13, hm_o q (m_tp) (m_sz) (m_fr) (m_bh) (m_hd) (m_ft) (m_fa) (m_le) (m_fo) (m_as) (m_fd) (m_bc) (m_bg) (m_bs) (m_be) (m_b0) (m_b1) (m_cm) (m_hc))) := (fr8 (mo) (hq_tne ty20 ty1 (by simp))).trans (ho_m)
    refine hp_calli (hp_runV (As := [.int (y1)]) (rest := []) hx hb hml hown hts (t_X13_end l D cs B G  V3 n hP.1 q hR (mo) ty20 (y1) fx23  (by omega) (by omega) (by omega) (by omega) (by omega) (by omega) (by omega) (by omega) ) hZ fx23 cv_L_22 rfl rfl ⟨Nat.le_of_ble_eq_true rfl, Nat.le_of_ble_eq_true rfl⟩ rfl hl.1 rfl (Nat.le_of_ble_eq_true rfl) dL_law_203 ⟨(Nat.le_of_ble_eq_true rfl), (Nat.le_of_ble_eq_true rfl)⟩) hZ (fun r20 V17 n18 _ _ hw19 hZ => ?_)
    obtain ⟨rfl, hq21, ⟨z24, ho25, hi26, hi27⟩, hr22⟩ := hw19
    have hP := hP.trans hq21 (fun _ h => Bool.noConfusion h)
    have b28 := hq_rng z24
    have b29 := hq_rng r20
    refine lv_pop hx hb dL_law_206 rfl ?_
    refine lv_goto (tgt := 761) hx hb dL_law_207 (by decide) ?_
    have fx30 : V17 (a) = some (.inr (11, [.ref (nb), .ref (nb + 2), .ref (nb + 5), .ref (nb + 46), .ref (nb + 50), .ref (nb + 62), .ref (nb + 87), .int (c_fs), .ref (nb + 88), .ref (nb + 465)])) := (hq21.2 (a) _ ty0 rfl).trans ((fr8 (a) (hq_tne ty0 ty1 (by simp))).trans (ho_a))
    have fx31 : V17 (nb + 2) = some (.inr (7, [.int (q_fk), .int (q_fp), q_tx, q_ou, .int (q_nx), .int (q_tk), .int (q_st), .ref (nb + 3)])) := (hq21.2 (nb + 2) _ ty3 rfl).trans ((fr8 (nb + 2) (hq_tne ty3 ty1 (by simp))).trans (ho_p))
    have fx32 : V17 (nb + 50) = some (.inr (1, [.ref (nb + 51), .ref (nb + 52), .int (e_fd), .ref (nb + 53), .ref (nb + 55), .ref (nb + 57), e_bk, e_an, e_mk, .int (e_sz), .ref (nb + 59), .ref (nb + 60), .ref (nb + 61)])) := (hq21.2 (nb + 50) _ ty7 rfl).trans ((fr8 (nb + 50) (hq_tne ty7 ty1 (by simp))).trans (ho_e))
    have fx33 : V17 (nb) = some (.inr (9, [.ref (nb + 1), .int (z9)])) := (hq21.2 (nb) _ ty1 rfl).trans (ho10)
    have hkx : ∀ x, hk_In nb q x → V17 x = V9 x := fun x hx => (hT2.fr hq21 (fun g hg => by first | rfl | (unfold hk_gr at hg; simp; omega)) x hx).trans (fr8 x (by unfold hk_In at hx; omega))
    have hE9 : hk_E cs nb q V17 (nb + 88) q_fk q_fp m_ft m_fa := hE.tape (w := sp_cut w (z9).toInt) (Or.inl rfl) hkx ⟨_, _, fx33, ((hq21.2 (nb + 1) _ ty2 rfl).trans (fr8 (nb + 1) (hq_tne ty2 ty1 (by simp)))).trans htg0, rfl, by show 0 ≤ (z9).toInt ∧ (z9).toInt ≤ 4000; omega, fun k9 (hk9 : (k9 : Int) < (z9).toInt) => hz3 k9 (by omega)⟩ ⟨_, ((hq21.2 (q + 20) _ (hr_20 hR) rfl).trans (fr8 (q + 20) (hq_tne (hr_20 hR) ty1 (by simp)))).trans htg1, sp_okb_cut hok (by omega) (by omega), fun k9 (hk9 : (k9 : Int) < (z9).toInt) => hz4 k9 (by omega)⟩ hoc
    obtain ⟨-, -, ⟨wb9, bk9, rh9, hAR9, hBm9, hgood9, hBx9⟩, hS09, hS19, -⟩ := id hE9
    have hkc : ∀ x, hk_Ic nb q x → V17 x = V9 x := fun x hx => (hT4.fr hq21 (fun g hg => by first | rfl | (simp; omega)) x hx).trans (fr8 x (by unfold hk_Ic at hx; omega))
    have hinv9 : hk_InvX cs G a nb mo q V17 := ⟨hP.1, _, _, _, _, _, _, _, _, _, _, _, _, _, _, _, _, _, _, _, _, _, _, _, _, _, _, _, _, _, _, _, _, _, _, _, fx30, Or.inl ⟨rfl, rfl⟩, by omega, (hq_J.of hBx9 hS09.2.1 hgood9.1), fx31, fx32, by omega, by omega, fx33, ho25, by omega, by omega, by omega, by omega, by omega, by omega, by omega, by omega, by omega, (hm_VQ.of hAR9 hBm9 hgood9.1), (by obtain ⟨fs9, h9⟩ := hst; exact ⟨fs9, ((hq21.2 (q + 19) _ (hr_19 hR) rfl).trans (fr8 (q + 19) (hq_tne (hr_19 hR) ty1 (by simp)))).trans h9⟩), hE9, (hCH.keep hkc)⟩
    exact kk _ _ _ ls hZ hinv9 (lv_sub hl [0, 1, 2, 3] rfl)
  · obtain ⟨hE0, ⟨w, hTx, hTm, hoc⟩, ⟨wb, bk, rh, hAR0, hBm, ⟨hgood, hgood2, hocb⟩, hBx⟩, hS0, hS1, hTS⟩ := id hE
    obtain ⟨hz1, hz2, tg0, htg0, hz3⟩ := hx_TP.opn hTx ho_n
    obtain ⟨tg1, htg1, hok, hz4⟩ := id hTm
    obtain ⟨hm1, hm2, hm3, -⟩ := id hBm
    refine lv_aload_n hx hb dL_law_187 rfl (lv_at hl 2 rfl) ?_
    refine lv_aload_n hx hb dL_law_188 rfl (lv_at hl 3 rfl) ?_
    refine lv_iload_n hx hb dL_law_189 rfl (lv_at hl 0 rfl) ?_
    refine lv_iconst (v := 1) hx hb dL_law_190 (by decide) ?_
    refine lv_iadd hx hb dL_law_191 ?_
    refine va_sld hx hb hX hbl hbA hZ.2.1 (hk_ix hi0 hi1 hL (by decide) (by decide)) dL_law_192 ?_
    refine lv_topi (fun y1 ey2 => ?_)
    refine hp_calli (hp_runV (As := [.int (y1)]) (rest := []) hx hb hml hown hts (x_end l D cs B G V9 n hP.1 (a) (nb) (nb + 465) (nb + 88) (y1) (c_fs) (p_z) ty0 ty1 ty2 ho_a ho_n  (by omega)) hZ ho_a cv_L_18 rfl rfl ⟨Nat.le_of_ble_eq_true rfl, Nat.le_of_ble_eq_true rfl⟩ rfl hl.1 rfl (Nat.le_of_ble_eq_true rfl) dL_law_193 ⟨(Nat.le_of_ble_eq_true rfl), (Nat.le_of_ble_eq_true rfl)⟩) hZ (fun r6 V3 n4 _ _ hw5 hZ => ?_)
    obtain ⟨rfl, hq7, fr8, z9, ho10, hp11⟩ := hw5
    have b12 := hq_rng z9
    have hP := hP.trans hq7 (fun _ h => Bool.noConfusion h)
    have b13 := hq_rng r6
    refine lv_pop hx hb dL_law_196 rfl ?_
    refine lv_aload_n hx hb dL_law_197 rfl (lv_at hl 1 rfl) ?_
    refine lv_aload_n hx hb dL_law_198 rfl (lv_at hl 3 rfl) ?_
    refine lv_iload_n hx hb dL_law_199 rfl (lv_at hl 0 rfl) ?_
    refine lv_iconst (v := 1) hx hb dL_law_200 (by decide) ?_
    refine lv_iadd hx hb dL_law_201 ?_
    refine va_sld hx hb hX hbl hbA hZ.2.1 (hk_ix hi0 hi1 hL (by decide) (by decide)) dL_law_202 ?_
    refine lv_topi (fun y14 ey15 => ?_)
    have b16 : y1 = y14 := by rw [ey15, ey2]
    subst b16
    have fx23 : V3 (mo) = some (.inr (13, hm_o q (m_tp) (m_sz) (m_fr) (m_bh) (m_hd) (m_ft) (m_fa) (m_le) (m_fo) (m_as) (m_fd) (m_bc) (m_bg) (m_bs) (m_be) (m_b0) (m_b1) (m_cm) (m_hc))) := (fr8 (mo) (hq_tne ty20 ty1 (by simp))).trans (ho_m)
    refine hp_calli (hp_runV (As := [.int (y1)]) (rest := []) hx hb hml hown hts (t_X13_end l D cs B G  V3 n hP.1 q hR (mo) ty20 (y1) fx23  (by omega) (by omega) (by omega) (by omega) (by omega) (by omega) (by omega) (by omega) ) hZ fx23 cv_L_22 rfl rfl ⟨Nat.le_of_ble_eq_true rfl, Nat.le_of_ble_eq_true rfl⟩ rfl hl.1 rfl (Nat.le_of_ble_eq_true rfl) dL_law_203 ⟨(Nat.le_of_ble_eq_true rfl), (Nat.le_of_ble_eq_true rfl)⟩) hZ (fun r20 V17 n18 _ _ hw19 hZ => ?_)
    obtain ⟨rfl, hq21, ⟨z24, ho25, hi26, hi27⟩, hr22⟩ := hw19
    have hP := hP.trans hq21 (fun _ h => Bool.noConfusion h)
    have b28 := hq_rng z24
    have b29 := hq_rng r20
    refine lv_pop hx hb dL_law_206 rfl ?_
    refine lv_goto (tgt := 761) hx hb dL_law_207 (by decide) ?_
    have fx30 : V17 (a) = some (.inr (11, [.ref (nb), .ref (nb + 2), .ref (nb + 5), .ref (nb + 46), .ref (nb + 50), .ref (nb + 62), .ref (nb + 87), .int (c_fs), .ref (nb + 465), .ref (nb + 88)])) := (hq21.2 (a) _ ty0 rfl).trans ((fr8 (a) (hq_tne ty0 ty1 (by simp))).trans (ho_a))
    have fx31 : V17 (nb + 2) = some (.inr (7, [.int (q_fk), .int (q_fp), q_tx, q_ou, .int (q_nx), .int (q_tk), .int (q_st), .ref (nb + 3)])) := (hq21.2 (nb + 2) _ ty3 rfl).trans ((fr8 (nb + 2) (hq_tne ty3 ty1 (by simp))).trans (ho_p))
    have fx32 : V17 (nb + 50) = some (.inr (1, [.ref (nb + 51), .ref (nb + 52), .int (e_fd), .ref (nb + 53), .ref (nb + 55), .ref (nb + 57), e_bk, e_an, e_mk, .int (e_sz), .ref (nb + 59), .ref (nb + 60), .ref (nb + 61)])) := (hq21.2 (nb + 50) _ ty7 rfl).trans ((fr8 (nb + 50) (hq_tne ty7 ty1 (by simp))).trans (ho_e))
    have fx33 : V17 (nb) = some (.inr (9, [.ref (nb + 1), .int (z9)])) := (hq21.2 (nb) _ ty1 rfl).trans (ho10)
    have hkx : ∀ x, hk_In nb q x → V17 x = V9 x := fun x hx => (hT2.fr hq21 (fun g hg => by first | rfl | (unfold hk_gr at hg; simp; omega)) x hx).trans (fr8 x (by unfold hk_In at hx; omega))
    have hE9 : hk_E cs nb q V17 (nb + 465) q_fk q_fp m_ft m_fa := hE.tape (w := sp_cut w (z9).toInt) (Or.inr rfl) hkx ⟨_, _, fx33, ((hq21.2 (nb + 1) _ ty2 rfl).trans (fr8 (nb + 1) (hq_tne ty2 ty1 (by simp)))).trans htg0, rfl, by show 0 ≤ (z9).toInt ∧ (z9).toInt ≤ 4000; omega, fun k9 (hk9 : (k9 : Int) < (z9).toInt) => hz3 k9 (by omega)⟩ ⟨_, ((hq21.2 (q + 20) _ (hr_20 hR) rfl).trans (fr8 (q + 20) (hq_tne (hr_20 hR) ty1 (by simp)))).trans htg1, sp_okb_cut hok (by omega) (by omega), fun k9 (hk9 : (k9 : Int) < (z9).toInt) => hz4 k9 (by omega)⟩ hoc
    obtain ⟨-, -, ⟨wb9, bk9, rh9, hAR9, hBm9, hgood9, hBx9⟩, hS09, hS19, -⟩ := id hE9
    have hkc : ∀ x, hk_Ic nb q x → V17 x = V9 x := fun x hx => (hT4.fr hq21 (fun g hg => by first | rfl | (simp; omega)) x hx).trans (fr8 x (by unfold hk_Ic at hx; omega))
    have hinv9 : hk_InvX cs G a nb mo q V17 := ⟨hP.1, _, _, _, _, _, _, _, _, _, _, _, _, _, _, _, _, _, _, _, _, _, _, _, _, _, _, _, _, _, _, _, _, _, _, _, fx30, Or.inr ⟨rfl, rfl⟩, by omega, (hq_J.of hBx9 hS19.2.1 hgood9.1), fx31, fx32, by omega, by omega, fx33, ho25, by omega, by omega, by omega, by omega, by omega, by omega, by omega, by omega, by omega, (hm_VQ.of hAR9 hBm9 hgood9.1), (by obtain ⟨fs9, h9⟩ := hst; exact ⟨fs9, ((hq21.2 (q + 19) _ (hr_19 hR) rfl).trans (fr8 (q + 19) (hq_tne (hr_19 hR) ty1 (by simp)))).trans h9⟩), hE9, (hCH.keep hkc)⟩
    exact kk _ _ _ ls hZ hinv9 (lv_sub hl [0, 1, 2, 3] rfl)

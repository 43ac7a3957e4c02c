set_option maxHeartbeats 8000000 in
set_option maxRecDepth 100000 in
theorem hx_c_row {p : Program} {e : Env} {s : State} {m : MethodId} {below : List Frame} {meth : Method} {c : Code} (l : Launch) (D : va_G) (cs : Nat → ClassId) (B : Nat) (G : hq_G) {b L : Nat} {xs : Nat → Int32} (hx : p.tables.exec = Jvm.exec) (hb : c.code = code) (hml : c.maxLocals = 4) (hown : s.vm.findClass RL = some m.cls) (hts : ∀ w ∈ TBG, w.before #[Value.ref b] s = true) (hX : va_X b L xs s s.heap) (hbl : b < s.heap.size) (hbA : ¬ hp_F B b) (hL : L ≤ 3072) (a nb mo q n : Nat) (hT : hk_Ty G a nb mo q) (hT2 : hk_T2 G nb q) (hT3 : hk_T3 G nb) (hT4 : hk_T4 G nb q) (hak : a + 1 = nb) (hmo9 : mo = nb + 842) (hq9 : q = nb + 843) (i : Int32) (hi0 : 0 ≤ i.toInt) (hi1 : i.toInt + 6 ≤ L) (kk : ∀ (V9 : hp_V) (H9 : Heap) (locs9 : List Loc) (ls : Array Slot), hp_Z D cs B s V9 H9 n locs9 → hk_InvX cs G a nb mo q V9 → lv_has ls 4 [(3, .int i), (2, .ref mo), (1, .ref a), (0, .ref b)] → W p l e room_1 s m #[Value.ref b] below meth c H9 locs9 891 28710 (lw_Z below #[Value.ref b] s) (F0 m 761 ls [])) (V9 : hp_V) (H9 : Heap) (locs9 : List Loc) (ls : Array Slot) (hZ : hp_Z D cs B s V9 H9 n locs9) (hinv : hk_InvX cs G a nb mo q V9) (hl : lv_has ls 4 [(3, .int i), (2, .ref mo), (1, .ref a), (0, .ref b)]) : W p l e room_1 s m #[Value.ref b] below meth c H9 locs9 891 28710 (lw_Z below #[Value.ref b] s) (F0 m 418 ls []) := by
  obtain ⟨ty0, ty1, ty2, ty3, ty4, ty5, ty6, ty7, ty8, ty9, ty10, ty11, ty12, ty13, ty14, ty15, ty16, ty17, ty18, ty19, ty20, hR⟩ := id hT
  obtain ⟨hI, c_fs, q_fk, q_fp, q_nx, q_tk, q_st, e_fd, e_sz, p_z, m_tp, m_sz, m_fr, m_bh, m_hd, m_ft, m_fa, m_le, m_fo, m_as, m_fd, m_bc, m_bg, m_bs, m_be, m_b0, m_b1, m_cm, m_hc, c_to, c_sp, q_tx, q_ou, e_bk, e_an, e_mk, ho_a, htold, hfs, hJ, ho_p, ho_e, hef, hes, ho_n, ho_m, hiv0, hiv1, hiv2, hiv3, hiv4, hiv5, hiv6, hiv7, hzt, hVQ, hst, hE, hCH⟩ := hinv
  have hP : hq_P cs G (fun _ => true) V9 V9 := hq_P.rf hI
  have hb_c_fs := hq_rng c_fs
  have hb_q_fk := hq_rng q_fk
  have hb_q_fp := hq_rng q_fp
  have hb_q_nx := hq_rng q_nx
  have hb_q_tk := hq_rng q_tk
  have hb_q_st := hq_rng q_st
  have hb_e_fd := hq_rng e_fd
  have hb_e_sz := hq_rng e_sz
  have hb_p_z := hq_rng p_z
  have hb_m_tp := hq_rng m_tp
  have hb_m_sz := hq_rng m_sz
  have hb_m_fr := hq_rng m_fr
  have hb_m_bh := hq_rng m_bh
  have hb_m_hd := hq_rng m_hd
  have hb_m_ft := hq_rng m_ft
  have hb_m_fa := hq_rng m_fa
  have hb_m_le := hq_rng m_le
  have hb_m_fo := hq_rng m_fo
  have hb_m_as := hq_rng m_as
  have hb_m_fd := hq_rng m_fd
  have hb_m_bc := hq_rng m_bc
  have hb_m_bg := hq_rng m_bg
  have hb_m_bs := hq_rng m_bs
  have hb_m_be := hq_rng m_be
  have hb_m_b0 := hq_rng m_b0
  have hb_m_b1 := hq_rng m_b1
  have hb_m_cm := hq_rng m_cm
  have hb_m_hc := hq_rng m_hc
  have hb_i := hq_rng i
  rcases htold with ⟨rfl, rfl⟩ | ⟨rfl, rfl⟩
  · refine lv_aload_n hx hb dL_law_418 rfl (lv_at hl 2 rfl) ?_
    refine lv_aload_n hx hb dL_law_419 rfl (lv_at hl 3 rfl) ?_
    refine lv_iload_n hx hb dL_law_420 rfl (lv_at hl 0 rfl) ?_
    refine lv_iconst (v := 1) hx hb dL_law_421 (by decide) ?_
    refine lv_iadd hx hb dL_law_422 ?_
    refine va_sld hx hb hX hbl hbA hZ.2.1 (hk_ix hi0 hi1 hL (by decide) (by decide)) dL_law_423 ?_
    refine lv_topi (fun y1 ey2 => ?_)
    refine lv_aload_n hx hb dL_law_424 rfl (lv_at hl 3 rfl) ?_
    refine lv_iload_n hx hb dL_law_425 rfl (lv_at hl 0 rfl) ?_
    refine lv_iconst (v := 2) hx hb dL_law_426 (by decide) ?_
    refine lv_iadd hx hb dL_law_427 ?_
    refine va_sld hx hb hX hbl hbA hZ.2.1 (hk_ix hi0 hi1 hL (by decide) (by decide)) dL_law_428 ?_
    refine lv_topi (fun y3 ey4 => ?_)
    refine lv_aload_n hx hb dL_law_429 rfl (lv_at hl 3 rfl) ?_
    refine lv_iload_n hx hb dL_law_430 rfl (lv_at hl 0 rfl) ?_
    refine lv_iconst (v := 3) hx hb dL_law_431 (by decide) ?_
    refine lv_iadd hx hb dL_law_432 ?_
    refine va_sld hx hb hX hbl hbA hZ.2.1 (hk_ix hi0 hi1 hL (by decide) (by decide)) dL_law_433 ?_
    refine lv_topi (fun y5 ey6 => ?_)
    refine lv_aload_n hx hb dL_law_434 rfl (lv_at hl 3 rfl) ?_
    refine lv_iload_n hx hb dL_law_435 rfl (lv_at hl 0 rfl) ?_
    refine lv_iconst (v := 4) hx hb dL_law_436 (by decide) ?_
    refine lv_iadd hx hb dL_law_437 ?_
    refine va_sld hx hb hX hbl hbA hZ.2.1 (hk_ix hi0 hi1 hL (by decide) (by decide)) dL_law_438 ?_
    refine lv_topi (fun y7 ey8 => ?_)
    refine lv_aload_n hx hb dL_law_439 rfl (lv_at hl 3 rfl) ?_
    refine lv_iload_n hx hb dL_law_440 rfl (lv_at hl 0 rfl) ?_
    refine lv_iconst (v := 5) hx hb dL_law_441 (by decide) ?_
    refine lv_iadd hx hb dL_law_442 ?_
    refine va_sld hx hb hX hbl hbA hZ.2.1 (hk_ix hi0 hi1 hL (by decide) (by decide)) dL_law_443 ?_
    refine lv_topi (fun y9 ey10 => ?_)
    refine hp_calli (hp_runV (As := [.int (y1), .int (y3), .int (y5), .int (y7), .int (y9)]) (rest := []) hx hb hml hown hts (t_X11_row_0 l D cs B G  V9 n hP.1  (a) ty0 (y1) (y3) (y5) (y7) (y9) ho_a ty1 ty3 ty5 ty6 ty7 ty16 ty17 ty18 ty19 (by omega) hJ) hZ ho_a cv_L_50 rfl rfl ⟨Nat.le_of_ble_eq_true rfl, Nat.le_of_ble_eq_true rfl⟩ rfl hl.1 rfl (Nat.le_of_ble_eq_true rfl) dL_law_444 ⟨(Nat.le_of_ble_eq_true rfl), (Nat.le_of_ble_eq_true rfl)⟩) hZ (fun r14 V11 n12 _ _ hw13 hZ => ?_)
    obtain ⟨rfl, hq15, ho17, hr16⟩ := hw13
    have hP := hP.trans hq15 (fun _ h => Bool.noConfusion h)
    have b18 := hq_rng r14
    refine lv_pop hx hb dL_law_447 rfl ?_
    refine lv_aload_n hx hb dL_law_448 rfl (lv_at hl 1 rfl) ?_
    refine lv_aload_n hx hb dL_law_449 rfl (lv_at hl 3 rfl) ?_
    refine lv_iload_n hx hb dL_law_450 rfl (lv_at hl 0 rfl) ?_
    refine lv_iconst (v := 1) hx hb dL_law_451 (by decide) ?_
    refine lv_iadd hx hb dL_law_452 ?_
    refine va_sld hx hb hX hbl hbA hZ.2.1 (hk_ix hi0 hi1 hL (by decide) (by decide)) dL_law_453 ?_
    refine lv_topi (fun y19 ey20 => ?_)
    have b21 : y1 = y19 := by rw [ey20, ey2]
    subst b21
    refine lv_aload_n hx hb dL_law_454 rfl (lv_at hl 3 rfl) ?_
    refine lv_iload_n hx hb dL_law_455 rfl (lv_at hl 0 rfl) ?_
    refine lv_iconst (v := 2) hx hb dL_law_456 (by decide) ?_
    refine lv_iadd hx hb dL_law_457 ?_
    refine va_sld hx hb hX hbl hbA hZ.2.1 (hk_ix hi0 hi1 hL (by decide) (by decide)) dL_law_458 ?_
    refine lv_topi (fun y22 ey23 => ?_)
    have b24 : y3 = y22 := by rw [ey23, ey4]
    subst b24
    refine lv_aload_n hx hb dL_law_459 rfl (lv_at hl 3 rfl) ?_
    refine lv_iload_n hx hb dL_law_460 rfl (lv_at hl 0 rfl) ?_
    refine lv_iconst (v := 3) hx hb dL_law_461 (by decide) ?_
    refine lv_iadd hx hb dL_law_462 ?_
    refine va_sld hx hb hX hbl hbA hZ.2.1 (hk_ix hi0 hi1 hL (by decide) (by decide)) dL_law_463 ?_
    refine lv_topi (fun y25 ey26 => ?_)
    have b27 : y5 = y25 := by rw [ey26, ey6]
    subst b27
    refine lv_aload_n hx hb dL_law_464 rfl (lv_at hl 3 rfl) ?_
    refine lv_iload_n hx hb dL_law_465 rfl (lv_at hl 0 rfl) ?_
    refine lv_iconst (v := 4) hx hb dL_law_466 (by decide) ?_
    refine lv_iadd hx hb dL_law_467 ?_
    refine va_sld hx hb hX hbl hbA hZ.2.1 (hk_ix hi0 hi1 hL (by decide) (by decide)) dL_law_468 ?_
    refine lv_topi (fun y28 ey29 => ?_)
    have b30 : y7 = y28 := by rw [ey29, ey8]
    subst b30
    refine lv_aload_n hx hb dL_law_469 rfl (lv_at hl 3 rfl) ?_
    refine lv_iload_n hx hb dL_law_470 rfl (lv_at hl 0 rfl) ?_
    refine lv_iconst (v := 5) hx hb dL_law_471 (by decide) ?_
    refine lv_iadd hx hb dL_law_472 ?_
    refine va_sld hx hb hX hbl hbA hZ.2.1 (hk_ix hi0 hi1 hL (by decide) (by decide)) dL_law_473 ?_
    refine lv_topi (fun y31 ey32 => ?_)
    have b33 : y9 = y31 := by rw [ey32, ey10]
    subst b33
    have fx40 : V11 (mo) = some (.inr (13, hm_o q (m_tp) (m_sz) (m_fr) (m_bh) (m_hd) (m_ft) (m_fa) (m_le) (m_fo) (m_as) (m_fd) (m_bc) (m_bg) (m_bs) (m_be) (m_b0) (m_b1) (m_cm) (m_hc))) := (hq15.2 (mo) _ ty20 rfl).trans (ho_m)
    refine hp_calli (hp_runV (As := [.int (y1), .int (y3), .int (y5), .int (y7), .int (y9)]) (rest := []) hx hb hml hown hts (t_X13_row l D cs B G  V11 n hP.1 q hR (mo) ty20 (y1) (y3) (y5) (y7) (y9) fx40  (by omega) (by omega) (by omega) (by omega) (by omega) (by omega) (by omega) (by omega) (hVQ.keep hR (fun x t hx hg => hq15.2 x t hx (by simp [hg])))) hZ fx40 cv_L_53 rfl rfl ⟨Nat.le_of_ble_eq_true rfl, Nat.le_of_ble_eq_true rfl⟩ rfl hl.1 rfl (Nat.le_of_ble_eq_true rfl) dL_law_474 ⟨(Nat.le_of_ble_eq_true rfl), (Nat.le_of_ble_eq_true rfl)⟩) hZ (fun r37 V34 n35 _ _ hw36 hZ => ?_)
    obtain ⟨rfl, hq38, ⟨z41, z42, ho43, hi44, hi45⟩, hr39⟩ := hw36
    have hP := hP.trans hq38 (fun _ h => Bool.noConfusion h)
    have b46 := hq_rng z42
    have b47 := hq_rng z41
    have b48 := hq_rng r37
    refine lv_pop hx hb dL_law_477 rfl ?_
    refine lv_goto (tgt := 761) hx hb dL_law_478 (by decide) ?_
    have fx49 : V34 (a) = some (.inr (11, [.ref (nb), .ref (nb + 2), .ref (nb + 5), .ref (nb + 46), .ref (nb + 50), .ref (nb + 62), .ref (nb + 87), .int (c_fs), .ref (nb + 88), .ref (nb + 465)])) := (hq38.2 (a) _ ty0 rfl).trans (ho17)
    have fx50 : V34 (nb + 2) = some (.inr (7, [.int (q_fk), .int (q_fp), q_tx, q_ou, .int (q_nx), .int (q_tk), .int (q_st), .ref (nb + 3)])) := (hq38.2 (nb + 2) _ ty3 rfl).trans ((hq15.2 (nb + 2) _ ty3 rfl).trans (ho_p))
    have fx51 : V34 (nb + 50) = some (.inr (1, [.ref (nb + 51), .ref (nb + 52), .int (e_fd), .ref (nb + 53), .ref (nb + 55), .ref (nb + 57), e_bk, e_an, e_mk, .int (e_sz), .ref (nb + 59), .ref (nb + 60), .ref (nb + 61)])) := (hq38.2 (nb + 50) _ ty7 rfl).trans ((hq15.2 (nb + 50) _ ty7 rfl).trans (ho_e))
    have fx52 : V34 (nb) = some (.inr (9, [.ref (nb + 1), .int (p_z)])) := (hq38.2 (nb) _ ty1 rfl).trans ((hq15.2 (nb) _ ty1 rfl).trans (ho_n))
    have hinv9 : hk_InvX cs G a nb mo q V34 := ⟨hP.1, _, _, _, _, _, _, _, _, _, _, _, _, _, _, _, _, _, _, _, _, _, _, _, _, _, _, _, _, _, _, _, _, _, _, _, fx49, Or.inl ⟨rfl, rfl⟩, by omega, (hJ.keep hP.1 ty18 (fun x t hx hg => (hq_lgp hq38 hx hg (fun _ => rfl)).trans (hq_lgp hq15 hx hg (fun _ => rfl)))), fx50, fx51, by omega, by omega, fx52, ho43, by omega, by omega, by omega, by omega, by omega, by omega, by omega, by omega, by omega, (hVQ.keep hR (fun x t hx hg => (hq38.2 x t hx (by simp [hg])).trans (hq15.2 x t hx (by simp [hg])))), (by obtain ⟨fs9, h9⟩ := hst; exact ⟨fs9, ((hq38.2 (q + 19) _ (hr_19 hR) rfl).trans (hq15.2 (q + 19) _ (hr_19 hR) rfl)).trans h9⟩), (hE.keep (Or.inl rfl) (fun x hx => (hT2.fr hq38 (fun g hg => by first | rfl | (unfold hk_gr at hg; simp; omega)) x hx).trans (hT2.fr hq15 (fun g hg => by first | rfl | (unfold hk_gr at hg; simp; omega)) x hx)) ((hq38.2 _ _ ty1 rfl).trans (hq15.2 _ _ ty1 rfl)) ((hq38.2 _ _ ty2 rfl).trans (hq15.2 _ _ ty2 rfl)) ((hq38.2 _ _ (hr_20 hR) rfl).trans (hq15.2 _ _ (hr_20 hR) rfl))), (hCH.keep (fun x hx => (hT4.fr hq38 (fun g hg => by first | rfl | (simp; omega)) x hx).trans (hT4.fr hq15 (fun g hg => by first | rfl | (simp; omega)) x hx)))⟩
    exact kk _ _ _ ls hZ hinv9 (lv_sub hl [0, 1, 2, 3] rfl)
  · refine lv_aload_n hx hb dL_law_418 rfl (lv_at hl 2 rfl) ?_
    refine lv_aload_n hx hb dL_law_419 rfl (lv_at hl 3 rfl) ?_
    refine lv_iload_n hx hb dL_law_420 rfl (lv_at hl 0 rfl) ?_
    refine lv_iconst (v := 1) hx hb dL_law_421 (by decide) ?_
    refine lv_iadd hx hb dL_law_422 ?_
    refine va_sld hx hb hX hbl hbA hZ.2.1 (hk_ix hi0 hi1 hL (by decide) (by decide)) dL_law_423 ?_
    refine lv_topi (fun y1 ey2 => ?_)
    refine lv_aload_n hx hb dL_law_424 rfl (lv_at hl 3 rfl) ?_
    refine lv_iload_n hx hb dL_law_425 rfl (lv_at hl 0 rfl) ?_
    refine lv_iconst (v := 2) hx hb dL_law_426 (by decide) ?_
    refine lv_iadd hx hb dL_law_427 ?_
    refine va_sld hx hb hX hbl hbA hZ.2.1 (hk_ix hi0 hi1 hL (by decide) (by decide)) dL_law_428 ?_
    refine lv_topi (fun y3 ey4 => ?_)
    refine lv_aload_n hx hb dL_law_429 rfl (lv_at hl 3 rfl) ?_
    refine lv_iload_n hx hb dL_law_430 rfl (lv_at hl 0 rfl) ?_
    refine lv_iconst (v := 3) hx hb dL_law_431 (by decide) ?_
    refine lv_iadd hx hb dL_law_432 ?_
    refine va_sld hx hb hX hbl hbA hZ.2.1 (hk_ix hi0 hi1 hL (by decide) (by decide)) dL_law_433 ?_
    refine lv_topi (fun y5 ey6 => ?_)
    refine lv_aload_n hx hb dL_law_434 rfl (lv_at hl 3 rfl) ?_
    refine lv_iload_n hx hb dL_law_435 rfl (lv_at hl 0 rfl) ?_
    refine lv_iconst (v := 4) hx hb dL_law_436 (by decide) ?_
    refine lv_iadd hx hb dL_law_437 ?_
    refine va_sld hx hb hX hbl hbA hZ.2.1 (hk_ix hi0 hi1 hL (by decide) (by decide)) dL_law_438 ?_
    refine lv_topi (fun y7 ey8 => ?_)
    refine lv_aload_n hx hb dL_law_439 rfl (lv_at hl 3 rfl) ?_
    refine lv_iload_n hx hb dL_law_440 rfl (lv_at hl 0 rfl) ?_
    refine lv_iconst (v := 5) hx hb dL_law_441 (by decide) ?_
    refine lv_iadd hx hb dL_law_442 ?_
    refine va_sld hx hb hX hbl hbA hZ.2.1 (hk_ix hi0 hi1 hL (by decide) (by decide)) dL_law_443 ?_
    refine lv_topi (fun y9 ey10 => ?_)
    refine hp_calli (hp_runV (As := [.int (y1), .int (y3), .int (y5), .int (y7), .int (y9)]) (rest := []) hx hb hml hown hts (t_X11_row_1 l D cs B G  V9 n hP.1  (a) ty0 (y1) (y3) (y5) (y7) (y9) ho_a ty1 ty3 ty5 ty6 ty7 ty16 ty17 ty19 ty18 (by omega) hJ) hZ ho_a cv_L_50 rfl rfl ⟨Nat.le_of_ble_eq_true rfl, Nat.le_of_ble_eq_true rfl⟩ rfl hl.1 rfl (Nat.le_of_ble_eq_true rfl) dL_law_444 ⟨(Nat.le_of_ble_eq_true rfl), (Nat.le_of_ble_eq_true rfl)⟩) hZ (fun r14 V11 n12 _ _ hw13 hZ => ?_)
    obtain ⟨rfl, hq15, ho17, hr16⟩ := hw13
    have hP := hP.trans hq15 (fun _ h => Bool.noConfusion h)
    have b18 := hq_rng r14
    refine lv_pop hx hb dL_law_447 rfl ?_
    refine lv_aload_n hx hb dL_law_448 rfl (lv_at hl 1 rfl) ?_
    refine lv_aload_n hx hb dL_law_449 rfl (lv_at hl 3 rfl) ?_
    refine lv_iload_n hx hb dL_law_450 rfl (lv_at hl 0 rfl) ?_
    refine lv_iconst (v := 1) hx hb dL_law_451 (by decide) ?_
    refine lv_iadd hx hb dL_law_452 ?_
    refine va_sld hx hb hX hbl hbA hZ.2.1 (hk_ix hi0 hi1 hL (by decide) (by decide)) dL_law_453 ?_
    refine lv_topi (fun y19 ey20 => ?_)
    have b21 : y1 = y19 := by rw [ey20, ey2]
    subst b21
    refine lv_aload_n hx hb dL_law_454 rfl (lv_at hl 3 rfl) ?_
    refine lv_iload_n hx hb dL_law_455 rfl (lv_at hl 0 rfl) ?_
    refine lv_iconst (v := 2) hx hb dL_law_456 (by decide) ?_
    refine lv_iadd hx hb dL_law_457 ?_
    refine va_sld hx hb hX hbl hbA hZ.2.1 (hk_ix hi0 hi1 hL (by decide) (by decide)) dL_law_458 ?_
    refine lv_topi (fun y22 ey23 => ?_)
    have b24 : y3 = y22 := by rw [ey23, ey4]
    subst b24
    refine lv_aload_n hx hb dL_law_459 rfl (lv_at hl 3 rfl) ?_
    refine lv_iload_n hx hb dL_law_460 rfl (lv_at hl 0 rfl) ?_
    refine lv_iconst (v := 3) hx hb dL_law_461 (by decide) ?_
    refine lv_iadd hx hb dL_law_462 ?_
    refine va_sld hx hb hX hbl hbA hZ.2.1 (hk_ix hi0 hi1 hL (by decide) (by decide)) dL_law_463 ?_
    refine lv_topi (fun y25 ey26 => ?_)
    have b27 : y5 = y25 := by rw [ey26, ey6]
    subst b27
    refine lv_aload_n hx hb dL_law_464 rfl (lv_at hl 3 rfl) ?_
    refine lv_iload_n hx hb dL_law_465 rfl (lv_at hl 0 rfl) ?_
    refine lv_iconst (v := 4) hx hb dL_law_466 (by decide) ?_
    refine lv_iadd hx hb dL_law_467 ?_
    refine va_sld hx hb hX hbl hbA hZ.2.1 (hk_ix hi0 hi1 hL (by decide) (by decide)) dL_law_468 ?_
    refine lv_topi (fun y28 ey29 => ?_)
    have b30 : y7 = y28 := by rw [ey29, ey8]
    subst b30
    refine lv_aload_n hx hb dL_law_469 rfl (lv_at hl 3 rfl) ?_
    refine lv_iload_n hx hb dL_law_470 rfl (lv_at hl 0 rfl) ?_
    refine lv_iconst (v := 5) hx hb dL_law_471 (by decide) ?_
    refine lv_iadd hx hb dL_law_472 ?_
    refine va_sld hx hb hX hbl hbA hZ.2.1 (hk_ix hi0 hi1 hL (by decide) (by decide)) dL_law_473 ?_
    refine lv_topi (fun y31 ey32 => ?_)
    have b33 : y9 = y31 := by rw [ey32, ey10]
    subst b33
    have fx40 : V11 (mo) = some (.inr (13, hm_o q (m_tp) (m_sz) (m_fr) (m_bh) (m_hd) (m_ft) (m_fa) (m_le) (m_fo) (m_as) (m_fd) (m_bc) (m_bg) (m_bs) (m_be) (m_b0) (m_b1) (m_cm) (m_hc))) := (hq15.2 (mo) _ ty20 rfl).trans (ho_m)
    refine hp_calli (hp_runV (As := [.int (y1), .int (y3), .int (y5), .int (y7), .int (y9)]) (rest := []) hx hb hml hown hts (t_X13_row l D cs B G  V11 n hP.1 q hR (mo) ty20 (y1) (y3) (y5) (y7) (y9) fx40  (by omega) (by omega) (by omega) (by omega) (by omega) (by omega) (by omega) (by omega) (hVQ.keep hR (fun x t hx hg => hq15.2 x t hx (by simp [hg])))) hZ fx40 cv_L_53 rfl rfl ⟨Nat.le_of_ble_eq_true rfl, Nat.le_of_ble_eq_true rfl⟩ rfl hl.1 rfl (Nat.le_of_ble_eq_true rfl) dL_law_474 ⟨(Nat.le_of_ble_eq_true rfl), (Nat.le_of_ble_eq_true rfl)⟩) hZ (fun r37 V34 n35 _ _ hw36 hZ => ?_)
    obtain ⟨rfl, hq38, ⟨z41, z42, ho43, hi44, hi45⟩, hr39⟩ := hw36
    have hP := hP.trans hq38 (fun _ h => Bool.noConfusion h)
    have b46 := hq_rng z42
    have b47 := hq_rng z41
    have b48 := hq_rng r37
    refine lv_pop hx hb dL_law_477 rfl ?_
    refine lv_goto (tgt := 761) hx hb dL_law_478 (by decide) ?_
    have fx49 : V34 (a) = some (.inr (11, [.ref (nb), .ref (nb + 2), .ref (nb + 5), .ref (nb + 46), .ref (nb + 50), .ref (nb + 62), .ref (nb + 87), .int (c_fs), .ref (nb + 465), .ref (nb + 88)])) := (hq38.2 (a) _ ty0 rfl).trans (ho17)
    have fx50 : V34 (nb + 2) = some (.inr (7, [.int (q_fk), .int (q_fp), q_tx, q_ou, .int (q_nx), .int (q_tk), .int (q_st), .ref (nb + 3)])) := (hq38.2 (nb + 2) _ ty3 rfl).trans ((hq15.2 (nb + 2) _ ty3 rfl).trans (ho_p))
    have fx51 : V34 (nb + 50) = some (.inr (1, [.ref (nb + 51), .ref (nb + 52), .int (e_fd), .ref (nb + 53), .ref (nb + 55), .ref (nb + 57), e_bk, e_an, e_mk, .int (e_sz), .ref (nb + 59), .ref (nb + 60), .ref (nb + 61)])) := (hq38.2 (nb + 50) _ ty7 rfl).trans ((hq15.2 (nb + 50) _ ty7 rfl).trans (ho_e))
    have fx52 : V34 (nb) = some (.inr (9, [.ref (nb + 1), .int (p_z)])) := (hq38.2 (nb) _ ty1 rfl).trans ((hq15.2 (nb) _ ty1 rfl).trans (ho_n))
    have hinv9 : hk_InvX cs G a nb mo q V34 := ⟨hP.1, _, _, _, _, _, _, _, _, _, _, _, _, _, _, _, _, _, _, _, _, _, _, _, _, _, _, _, _, _, _, _, _, _, _, _, fx49, Or.inr ⟨rfl, rfl⟩, by omega, (hJ.keep hP.1 ty19 (fun x t hx hg => (hq_lgp hq38 hx hg (fun _ => rfl)).trans (hq_lgp hq15 hx hg (fun _ => rfl)))), fx50, fx51, by omega, by omega, fx52, ho43, by omega, by omega, by omega, by omega, by omega, by omega, by omega, by omega, by omega, (hVQ.keep hR (fun x t hx hg => (hq38.2 x t hx (by simp [hg])).trans (hq15.2 x t hx (by simp [hg])))), (by obtain ⟨fs9, h9⟩ := hst; exact ⟨fs9, ((hq38.2 (q + 19) _ (hr_19 hR) rfl).trans (hq15.2 (q + 19) _ (hr_19 hR) rfl)).trans h9⟩), (hE.keep (Or.inr rfl) (fun x hx => (hT2.fr hq38 (fun g hg => by first | rfl | (unfold hk_gr at hg; simp; omega)) x hx).trans (hT2.fr hq15 (fun g hg => by first | rfl | (unfold hk_gr at hg; simp; omega)) x hx)) ((hq38.2 _ _ ty1 rfl).trans (hq15.2 _ _ ty1 rfl)) ((hq38.2 _ _ ty2 rfl).trans (hq15.2 _ _ ty2 rfl)) ((hq38.2 _ _ (hr_20 hR) rfl).trans (hq15.2 _ _ (hr_20 hR) rfl))), (hCH.keep (fun x hx => (hT4.fr hq38 (fun g hg => by first | rfl | (simp; omega)) x hx).trans (hT4.fr hq15 (fun g hg => by first | rfl | (simp; omega)) x hx)))⟩
    exact kk _ _ _ ls hZ hinv9 (lv_sub hl [0, 1, 2, 3] rfl)

set_option maxHeartbeats 8000000 in
set_option maxRecDepth 100000 in
theorem hx_c_rivals {p : Program} {e : Env} {s : State} {m : MethodId} {below : List Frame} {meth : Method} {c : Code} (l : Launch) (D : va_G) (cs : Nat → ClassId) (B : Nat) (G : hq_G) {b L : Nat} {xs : Nat → Int32} (hx : p.tables.exec = Jvm.exec) (hb : c.code = code) (hml : c.maxLocals = 4) (hown : s.vm.findClass RL = some m.cls) (hts : ∀ w ∈ TBG, w.before #[Value.ref b] s = true) (hX : va_X b L xs s s.heap) (hbl : b < s.heap.size) (hbA : ¬ hp_F B b) (hL : L ≤ 3072) (a nb mo q n : Nat) (hT : hk_Ty G a nb mo q) (hT2 : hk_T2 G nb q) (hT3 : hk_T3 G nb) (hT4 : hk_T4 G nb q) (hak : a + 1 = nb) (hmo9 : mo = nb + 842) (hq9 : q = nb + 843) (i : Int32) (hi0 : 0 ≤ i.toInt) (hi1 : i.toInt + 6 ≤ L) (kk : ∀ (V9 : hp_V) (H9 : Heap) (locs9 : List Loc) (ls : Array Slot), hp_Z D cs B s V9 H9 n locs9 → hk_InvX cs G a nb mo q V9 → lv_has ls 4 [(3, .int i), (2, .ref mo), (1, .ref a), (0, .ref b)] → W p l e room_1 s m #[Value.ref b] below meth c H9 locs9 891 28710 (lw_Z below #[Value.ref b] s) (F0 m 761 ls [])) (V9 : hp_V) (H9 : Heap) (locs9 : List Loc) (ls : Array Slot) (hZ : hp_Z D cs B s V9 H9 n locs9) (hinv : hk_InvX cs G a nb mo q V9) (hl : lv_has ls 4 [(3, .int i), (2, .ref mo), (1, .ref a), (0, .ref b)]) : W p l e room_1 s m #[Value.ref b] below meth c H9 locs9 891 28710 (lw_Z below #[Value.ref b] s) (F0 m 481 ls []) := by
  obtain ⟨ty0, ty1, ty2, ty3, ty4, ty5, ty6, ty7, ty8, ty9, ty10, ty11, ty12, ty13, ty14, ty15, ty16, ty17, ty18, ty19, ty20, hR⟩ := id hT
  obtain ⟨hI, c_fs, q_fk, q_fp, q_nx, q_tk, q_st, e_fd, e_sz, p_z, m_tp, m_sz, m_fr, m_bh, m_hd, m_ft, m_fa, m_le, m_fo, m_as, m_fd, m_bc, m_bg, m_bs, m_be, m_b0, m_b1, m_cm, m_hc, c_to, c_sp, q_tx, q_ou, e_bk, e_an, e_mk, ho_a, htold, hfs, hJ, ho_p, ho_e, hef, hes, ho_n, ho_m, hiv0, hiv1, hiv2, hiv3, hiv4, hiv5, hiv6, hiv7, hzt, hVQ, hst, hE, hCH⟩ := hinv
  have hP : hq_P cs G (fun _ => true) V9 V9 := hq_P.rf hI
  have hb_c_fs := hq_rng c_fs
  have hb_q_fk := hq_rng q_fk
  have hb_q_fp := hq_rng q_fp
  have hb_q_nx := hq_rng q_nx
  have hb_q_tk := hq_rng q_tk
  have hb_q_st := hq_rng q_st
  have hb_e_fd := hq_rng e_fd
  have hb_e_sz := hq_rng e_sz
  have hb_p_z := hq_rng p_z
  have hb_m_tp := hq_rng m_tp
  have hb_m_sz := hq_rng m_sz
  have hb_m_fr := hq_rng m_fr
  have hb_m_bh := hq_rng m_bh
  have hb_m_hd := hq_rng m_hd
  have hb_m_ft := hq_rng m_ft
  have hb_m_fa := hq_rng m_fa
  have hb_m_le := hq_rng m_le
  have hb_m_fo := hq_rng m_fo
  have hb_m_as := hq_rng m_as
  have hb_m_fd := hq_rng m_fd
  have hb_m_bc := hq_rng m_bc
  have hb_m_bg := hq_rng m_bg
  have hb_m_bs := hq_rng m_bs
  have hb_m_be := hq_rng m_be
  have hb_m_b0 := hq_rng m_b0
  have hb_m_b1 := hq_rng m_b1
  have hb_m_cm := hq_rng m_cm
  have hb_m_hc := hq_rng m_hc
  have hb_i := hq_rng i
  rcases htold with ⟨rfl, rfl⟩ | ⟨rfl, rfl⟩
  · refine lv_aload_n hx hb dL_law_481 rfl (lv_at hl 2 rfl) ?_
    refine lv_aload_n hx hb dL_law_482 rfl (lv_at hl 3 rfl) ?_
    refine lv_iload_n hx hb dL_law_483 rfl (lv_at hl 0 rfl) ?_
    refine lv_iconst (v := 1) hx hb dL_law_484 (by decide) ?_
    refine lv_iadd hx hb dL_law_485 ?_
    refine va_sld hx hb hX hbl hbA hZ.2.1 (hk_ix hi0 hi1 hL (by decide) (by decide)) dL_law_486 ?_
    refine lv_topi (fun y1 ey2 => ?_)
    refine lv_aload_n hx hb dL_law_487 rfl (lv_at hl 3 rfl) ?_
    refine lv_iload_n hx hb dL_law_488 rfl (lv_at hl 0 rfl) ?_
    refine lv_iconst (v := 2) hx hb dL_law_489 (by decide) ?_
    refine lv_iadd hx hb dL_law_490 ?_
    refine va_sld hx hb hX hbl hbA hZ.2.1 (hk_ix hi0 hi1 hL (by decide) (by decide)) dL_law_491 ?_
    refine lv_topi (fun y3 ey4 => ?_)
    refine lv_aload_n hx hb dL_law_492 rfl (lv_at hl 3 rfl) ?_
    refine lv_iload_n hx hb dL_law_493 rfl (lv_at hl 0 rfl) ?_
    refine lv_iconst (v := 3) hx hb dL_law_494 (by decide) ?_
    refine lv_iadd hx hb dL_law_495 ?_
    refine va_sld hx hb hX hbl hbA hZ.2.1 (hk_ix hi0 hi1 hL (by decide) (by decide)) dL_law_496 ?_
    refine lv_topi (fun y5 ey6 => ?_)
    refine hp_calli (hp_runV (As := [.int (y1), .int (y3), .int (y5)]) (rest := []) hx hb hml hown hts (t_X11_rivals_0 l D cs B G  V9 n hP.1  (a) ty0 (y1) (y3) (y5) ho_a ty1 ty3 ty5 ty6 ty7 ty16 ty17 ty18 ty19 (by omega) ) hZ ho_a cv_L_54 rfl rfl ⟨Nat.le_of_ble_eq_true rfl, Nat.le_of_ble_eq_true rfl⟩ rfl hl.1 rfl (Nat.le_of_ble_eq_true rfl) dL_law_497 ⟨(Nat.le_of_ble_eq_true rfl), (Nat.le_of_ble_eq_true rfl)⟩) hZ (fun r10 V7 n8 _ _ hw9 hZ => ?_)
    obtain ⟨rfl, hq11, ho13, hr12⟩ := hw9
    have hP := hP.trans hq11 (fun _ _ => rfl)
    have b14 := hq_rng r10
    refine lv_pop hx hb dL_law_500 rfl ?_
    refine lv_aload_n hx hb dL_law_501 rfl (lv_at hl 1 rfl) ?_
    refine lv_aload_n hx hb dL_law_502 rfl (lv_at hl 3 rfl) ?_
    refine lv_iload_n hx hb dL_law_503 rfl (lv_at hl 0 rfl) ?_
    refine lv_iconst (v := 1) hx hb dL_law_504 (by decide) ?_
    refine lv_iadd hx hb dL_law_505 ?_
    refine va_sld hx hb hX hbl hbA hZ.2.1 (hk_ix hi0 hi1 hL (by decide) (by decide)) dL_law_506 ?_
    refine lv_topi (fun y15 ey16 => ?_)
    have b17 : y1 = y15 := by rw [ey16, ey2]
    subst b17
    refine lv_aload_n hx hb dL_law_507 rfl (lv_at hl 3 rfl) ?_
    refine lv_iload_n hx hb dL_law_508 rfl (lv_at hl 0 rfl) ?_
    refine lv_iconst (v := 2) hx hb dL_law_509 (by decide) ?_
    refine lv_iadd hx hb dL_law_510 ?_
    refine va_sld hx hb hX hbl hbA hZ.2.1 (hk_ix hi0 hi1 hL (by decide) (by decide)) dL_law_511 ?_
    refine lv_topi (fun y18 ey19 => ?_)
    have b20 : y3 = y18 := by rw [ey19, ey4]
    subst b20
    refine lv_aload_n hx hb dL_law_512 rfl (lv_at hl 3 rfl) ?_
    refine lv_iload_n hx hb dL_law_513 rfl (lv_at hl 0 rfl) ?_
    refine lv_iconst (v := 3) hx hb dL_law_514 (by decide) ?_
    refine lv_iadd hx hb dL_law_515 ?_
    refine va_sld hx hb hX hbl hbA hZ.2.1 (hk_ix hi0 hi1 hL (by decide) (by decide)) dL_law_516 ?_
    refine lv_topi (fun y21 ey22 => ?_)
    have b23 : y5 = y21 := by rw [ey22, ey6]
    subst b23
    have fx30 : V7 (mo) = some (.inr (13, hm_o q (m_tp) (m_sz) (m_fr) (m_bh) (m_hd) (m_ft) (m_fa) (m_le) (m_fo) (m_as) (m_fd) (m_bc) (m_bg) (m_bs) (m_be) (m_b0) (m_b1) (m_cm) (m_hc))) := (hq11.2 (mo) _ ty20 rfl).trans (ho_m)
    refine hp_calli (hp_runV (As := [.int (y1), .int (y3), .int (y5)]) (rest := []) hx hb hml hown hts (t_X13_rivals l D cs B G  V7 n hP.1 q hR (mo) ty20 (y1) (y3) (y5) fx30  (by omega) (by omega) (by omega) (by omega) (by omega) (by omega) (by omega) (by omega) ) hZ fx30 cv_L_57 rfl rfl ⟨Nat.le_of_ble_eq_true rfl, Nat.le_of_ble_eq_true rfl⟩ rfl hl.1 rfl (Nat.le_of_ble_eq_true rfl) dL_law_517 ⟨(Nat.le_of_ble_eq_true rfl), (Nat.le_of_ble_eq_true rfl)⟩) hZ (fun r27 V24 n25 _ _ hw26 hZ => ?_)
    obtain ⟨rfl, hq28, ho31, hr29⟩ := hw26
    have hP := hP.trans hq28 (fun _ _ => rfl)
    have b32 := hq_rng r27
    refine lv_pop hx hb dL_law_520 rfl ?_
    refine lv_goto (tgt := 761) hx hb dL_law_521 (by decide) ?_
    have fx33 : V24 (a) = some (.inr (11, [.ref (nb), .ref (nb + 2), .ref (nb + 5), .ref (nb + 46), .ref (nb + 50), .ref (nb + 62), .ref (nb + 87), .int (c_fs), .ref (nb + 88), .ref (nb + 465)])) := (hq28.2 (a) _ ty0 rfl).trans (ho13)
    have fx34 : V24 (nb + 2) = some (.inr (7, [.int (q_fk), .int (q_fp), q_tx, q_ou, .int (q_nx), .int (q_tk), .int (q_st), .ref (nb + 3)])) := (hq28.2 (nb + 2) _ ty3 rfl).trans ((hq11.2 (nb + 2) _ ty3 rfl).trans (ho_p))
    have fx35 : V24 (nb + 50) = some (.inr (1, [.ref (nb + 51), .ref (nb + 52), .int (e_fd), .ref (nb + 53), .ref (nb + 55), .ref (nb + 57), e_bk, e_an, e_mk, .int (e_sz), .ref (nb + 59), .ref (nb + 60), .ref (nb + 61)])) := (hq28.2 (nb + 50) _ ty7 rfl).trans ((hq11.2 (nb + 50) _ ty7 rfl).trans (ho_e))
    have fx36 : V24 (nb) = some (.inr (9, [.ref (nb + 1), .int (p_z)])) := (hq28.2 (nb) _ ty1 rfl).trans ((hq11.2 (nb) _ ty1 rfl).trans (ho_n))
    have hinv9 : hk_InvX cs G a nb mo q V24 := ⟨hP.1, _, _, _, _, _, _, _, _, _, _, _, _, _, _, _, _, _, _, _, _, _, _, _, _, _, _, _, _, _, _, _, _, _, _, _, fx33, Or.inl ⟨rfl, rfl⟩, by omega, (hJ.keep hP.1 ty18 (fun x t hx hg => (hq_lgp hq28 hx hg (fun _ => rfl)).trans (hq_lgp hq11 hx hg (fun _ => rfl)))), fx34, fx35, by omega, by omega, fx36, ho31, by omega, by omega, by omega, by omega, by omega, by omega, by omega, by omega, by omega, (hVQ.keep hR (fun x t hx hg => (hq28.2 x t hx (by simp [hg])).trans (hq11.2 x t hx (by simp [hg])))), (by obtain ⟨fs9, h9⟩ := hst; exact ⟨fs9, ((hq28.2 (q + 19) _ (hr_19 hR) rfl).trans (hq11.2 (q + 19) _ (hr_19 hR) rfl)).trans h9⟩), (hE.keep (Or.inl rfl) (fun x hx => (hT2.fr hq28 (fun g hg => by first | rfl | (unfold hk_gr at hg; simp; omega)) x hx).trans (hT2.fr hq11 (fun g hg => by first | rfl | (unfold hk_gr at hg; simp; omega)) x hx)) ((hq28.2 _ _ ty1 rfl).trans (hq11.2 _ _ ty1 rfl)) ((hq28.2 _ _ ty2 rfl).trans (hq11.2 _ _ ty2 rfl)) ((hq28.2 _ _ (hr_20 hR) rfl).trans (hq11.2 _ _ (hr_20 hR) rfl))), (hCH.keep (fun x hx => (hT4.fr hq28 (fun g hg => by first | rfl | (simp; omega)) x hx).trans (hT4.fr hq11 (fun g hg => by first | rfl | (simp; omega)) x hx)))⟩
    exact kk _ _ _ ls hZ hinv9 (lv_sub hl [0, 1, 2, 3] rfl)
  · refine lv_aload_n hx hb dL_law_481 rfl (lv_at hl 2 rfl) ?_
    refine lv_aload_n hx hb dL_law_482 rfl (lv_at hl 3 rfl) ?_
    refine lv_iload_n hx hb dL_law_483 rfl (lv_at hl 0 rfl) ?_
    refine lv_iconst (v := 1) hx hb dL_law_484 (by decide) ?_
    refine lv_iadd hx hb dL_law_485 ?_
    refine va_sld hx hb hX hbl hbA hZ.2.1 (hk_ix hi0 hi1 hL (by decide) (by decide)) dL_law_486 ?_
    refine lv_topi (fun y1 ey2 => ?_)
    refine lv_aload_n hx hb dL_law_487 rfl (lv_at hl 3 rfl) ?_
    refine lv_iload_n hx hb dL_law_488 rfl (lv_at hl 0 rfl) ?_
    refine lv_iconst (v := 2) hx hb dL_law_489 (by decide) ?_
    refine lv_iadd hx hb dL_law_490 ?_
    refine va_sld hx hb hX hbl hbA hZ.2.1 (hk_ix hi0 hi1 hL (by decide) (by decide)) dL_law_491 ?_
    refine lv_topi (fun y3 ey4 => ?_)
    refine lv_aload_n hx hb dL_law_492 rfl (lv_at hl 3 rfl) ?_
    refine lv_iload_n hx hb dL_law_493 rfl (lv_at hl 0 rfl) ?_
    refine lv_iconst (v := 3) hx hb dL_law_494 (by decide) ?_
    refine lv_iadd hx hb dL_law_495 ?_
    refine va_sld hx hb hX hbl hbA hZ.2.1 (hk_ix hi0 hi1 hL (by decide) (by decide)) dL_law_496 ?_
    refine lv_topi (fun y5 ey6 => ?_)
    refine hp_calli (hp_runV (As := [.int (y1), .int (y3), .int (y5)]) (rest := []) hx hb hml hown hts (t_X11_rivals_1 l D cs B G  V9 n hP.1  (a) ty0 (y1) (y3) (y5) ho_a ty1 ty3 ty5 ty6 ty7 ty16 ty17 ty19 ty18 (by omega) ) hZ ho_a cv_L_54 rfl rfl ⟨Nat.le_of_ble_eq_true rfl, Nat.le_of_ble_eq_true rfl⟩ rfl hl.1 rfl (Nat.le_of_ble_eq_true rfl) dL_law_497 ⟨(Nat.le_of_ble_eq_true rfl), (Nat.le_of_ble_eq_true rfl)⟩) hZ (fun r10 V7 n8 _ _ hw9 hZ => ?_)
    obtain ⟨rfl, hq11, ho13, hr12⟩ := hw9
    have hP := hP.trans hq11 (fun _ _ => rfl)
    have b14 := hq_rng r10
    refine lv_pop hx hb dL_law_500 rfl ?_
    refine lv_aload_n hx hb dL_law_501 rfl (lv_at hl 1 rfl) ?_
    refine lv_aload_n hx hb dL_law_502 rfl (lv_at hl 3 rfl) ?_
    refine lv_iload_n hx hb dL_law_503 rfl (lv_at hl 0 rfl) ?_
    refine lv_iconst (v := 1) hx hb dL_law_504 (by decide) ?_
    refine lv_iadd hx hb dL_law_505 ?_
    refine va_sld hx hb hX hbl hbA hZ.2.1 (hk_ix hi0 hi1 hL (by decide) (by decide)) dL_law_506 ?_
    refine lv_topi (fun y15 ey16 => ?_)
    have b17 : y1 = y15 := by rw [ey16, ey2]
    subst b17
    refine lv_aload_n hx hb dL_law_507 rfl (lv_at hl 3 rfl) ?_
    refine lv_iload_n hx hb dL_law_508 rfl (lv_at hl 0 rfl) ?_
    refine lv_iconst (v := 2) hx hb dL_law_509 (by decide) ?_
    refine lv_iadd hx hb dL_law_510 ?_
    refine va_sld hx hb hX hbl hbA hZ.2.1 (hk_ix hi0 hi1 hL (by decide) (by decide)) dL_law_511 ?_
    refine lv_topi (fun y18 ey19 => ?_)
    have b20 : y3 = y18 := by rw [ey19, ey4]
    subst b20
    refine lv_aload_n hx hb dL_law_512 rfl (lv_at hl 3 rfl) ?_
    refine lv_iload_n hx hb dL_law_513 rfl (lv_at hl 0 rfl) ?_
    refine lv_iconst (v := 3) hx hb dL_law_514 (by decide) ?_
    refine lv_iadd hx hb dL_law_515 ?_
    refine va_sld hx hb hX hbl hbA hZ.2.1 (hk_ix hi0 hi1 hL (by decide) (by decide)) dL_law_516 ?_
    refine lv_topi (fun y21 ey22 => ?_)
    have b23 : y5 = y21 := by rw [ey22, ey6]
    subst b23
    have fx30 : V7 (mo) = some (.inr (13, hm_o q (m_tp) (m_sz) (m_fr) (m_bh) (m_hd) (m_ft) (m_fa) (m_le) (m_fo) (m_as) (m_fd) (m_bc) (m_bg) (m_bs) (m_be) (m_b0) (m_b1) (m_cm) (m_hc))) := (hq11.2 (mo) _ ty20 rfl).trans (ho_m)
    refine hp_calli (hp_runV (As := [.int (y1), .int (y3), .int (y5)]) (rest := []) hx hb hml hown hts (t_X13_rivals l D cs B G  V7 n hP.1 q hR (mo) ty20 (y1) (y3) (y5) fx30  (by omega) (by omega) (by omega) (by omega) (by omega) (by omega) (by omega) (by omega) ) hZ fx30 cv_L_57 rfl rfl ⟨Nat.le_of_ble_eq_true rfl, Nat.le_of_ble_eq_true rfl⟩ rfl hl.1 rfl (Nat.le_of_ble_eq_true rfl) dL_law_517 ⟨(Nat.le_of_ble_eq_true rfl), (Nat.le_of_ble_eq_true rfl)⟩) hZ (fun r27 V24 n25 _ _ hw26 hZ => ?_)
    obtain ⟨rfl, hq28, ho31, hr29⟩ := hw26
    have hP := hP.trans hq28 (fun _ _ => rfl)
    have b32 := hq_rng r27
    refine lv_pop hx hb dL_law_520 rfl ?_
    refine lv_goto (tgt := 761) hx hb dL_law_521 (by decide) ?_
    have fx33 : V24 (a) = some (.inr (11, [.ref (nb), .ref (nb + 2), .ref (nb + 5), .ref (nb + 46), .ref (nb + 50), .ref (nb + 62), .ref (nb + 87), .int (c_fs), .ref (nb + 465), .ref (nb + 88)])) := (hq28.2 (a) _ ty0 rfl).trans (ho13)
    have fx34 : V24 (nb + 2) = some (.inr (7, [.int (q_fk), .int (q_fp), q_tx, q_ou, .int (q_nx), .int (q_tk), .int (q_st), .ref (nb + 3)])) := (hq28.2 (nb + 2) _ ty3 rfl).trans ((hq11.2 (nb + 2) _ ty3 rfl).trans (ho_p))
    have fx35 : V24 (nb + 50) = some (.inr (1, [.ref (nb + 51), .ref (nb + 52), .int (e_fd), .ref (nb + 53), .ref (nb + 55), .ref (nb + 57), e_bk, e_an, e_mk, .int (e_sz), .ref (nb + 59), .ref (nb + 60), .ref (nb + 61)])) := (hq28.2 (nb + 50) _ ty7 rfl).trans ((hq11.2 (nb + 50) _ ty7 rfl).trans (ho_e))
    have fx36 : V24 (nb) = some (.inr (9, [.ref (nb + 1), .int (p_z)])) := (hq28.2 (nb) _ ty1 rfl).trans ((hq11.2 (nb) _ ty1 rfl).trans (ho_n))
    have hinv9 : hk_InvX cs G a nb mo q V24 := ⟨hP.1, _, _, _, _, _, _, _, _, _, _, _, _, _, _, _, _, _, _, _, _, _, _, _, _, _, _, _, _, _, _, _, _, _, _, _, fx33, Or.inr ⟨rfl, rfl⟩, by omega, (hJ.keep hP.1 ty19 (fun x t hx hg => (hq_lgp hq28 hx hg (fun _ => rfl)).trans (hq_lgp hq11 hx hg (fun _ => rfl)))), fx34, fx35, by omega, by omega, fx36, ho31, by omega, by omega, by omega, by omega, by omega, by omega, by omega, by omega, by omega, (hVQ.keep hR (fun x t hx hg => (hq28.2 x t hx (by simp [hg])).trans (hq11.2 x t hx (by simp [hg])))), (by obtain ⟨fs9, h9⟩ := hst; exact ⟨fs9, ((hq28.2 (q + 19) _ (hr_19 hR) rfl).trans (hq11.2 (q + 19) _ (hr_19 hR) rfl)).trans h9⟩), (hE.keep (Or.inr rfl) (fun x hx => (hT2.fr hq28 (fun g hg => by first | rfl | (unfold hk_gr at hg; simp; omega)) x hx).trans (hT2.fr hq11 (fun g hg => by first | rfl | (unfold hk_gr at hg; simp; omega)) x hx)) ((hq28.2 _ _ ty1 rfl).trans (hq11.2 _ _ ty1 rfl)) ((hq28.2 _ _ ty2 rfl).trans (hq11.2 _ _ ty2 rfl)) ((hq28.2 _ _ (hr_20 hR) rfl).trans (hq11.2 _ _ (hr_20 hR) rfl))), (hCH.keep (fun x hx => (hT4.fr hq28 (fun g hg => by first | rfl | (simp; omega)) x hx).trans (hT4.fr hq11 (fun g hg => by first | rfl | (simp; omega)) x hx)))⟩
    exact kk _ _ _ ls hZ hinv9 (lv_sub hl [0, 1, 2, 3] rfl)

set_option maxHeartbeats 8000000 in
set_option maxRecDepth 100000 in
theorem hx_c_read {p : Program} {e : Env} {s : State} {m : MethodId} {below : List Frame} {meth : Method} {c : Code} (l : Launch) (D : va_G) (cs : Nat → ClassId) (B : Nat) (G : hq_G) {b L : Nat} {xs : Nat → Int32} (hx : p.tables.exec = Jvm.exec) (hb : c.code = code) (hml : c.maxLocals = 4) (hown : s.vm.findClass RL = some m.cls) (hts : ∀ w ∈ TBG, w.before #[Value.ref b] s = true) (hX : va_X b L xs s s.heap) (hbl : b < s.heap.size) (hbA : ¬ hp_F B b) (hL : L ≤ 3072) (a nb mo q n : Nat) (hT : hk_Ty G a nb mo q) (hT2 : hk_T2 G nb q) (hT3 : hk_T3 G nb) (hT4 : hk_T4 G nb q) (hak : a + 1 = nb) (hmo9 : mo = nb + 842) (hq9 : q = nb + 843) (i : Int32) (hi0 : 0 ≤ i.toInt) (hi1 : i.toInt + 6 ≤ L) (kk : ∀ (V9 : hp_V) (H9 : Heap) (locs9 : List Loc) (ls : Array Slot), hp_Z D cs B s V9 H9 n locs9 → hk_InvX cs G a nb mo q V9 → lv_has ls 4 [(3, .int i), (2, .ref mo), (1, .ref a), (0, .ref b)] → W p l e room_1 s m #[Value.ref b] below meth c H9 locs9 891 28710 (lw_Z below #[Value.ref b] s) (F0 m 761 ls [])) (V9 : hp_V) (H9 : Heap) (locs9 : List Loc) (ls : Array Slot) (hZ : hp_Z D cs B s V9 H9 n locs9) (hinv : hk_InvX cs G a nb mo q V9) (hl : lv_has ls 4 [(3, .int i), (2, .ref mo), (1, .ref a), (0, .ref b)]) : W p l e room_1 s m #[Value.ref b] below meth c H9 locs9 891 28710 (lw_Z below #[Value.ref b] s) (F0 m 524 ls []) := by
  obtain ⟨ty0, ty1, ty2, ty3, ty4, ty5, ty6, ty7, ty8, ty9, ty10, ty11, ty12, ty13, ty14, ty15, ty16, ty17, ty18, ty19, ty20, hR⟩ := id hT
  obtain ⟨hI, c_fs, q_fk, q_fp, q_nx, q_tk, q_st, e_fd, e_sz, p_z, m_tp, m_sz, m_fr, m_bh, m_hd, m_ft, m_fa, m_le, m_fo, m_as, m_fd, m_bc, m_bg, m_bs, m_be, m_b0, m_b1, m_cm, m_hc, c_to, c_sp, q_tx, q_ou, e_bk, e_an, e_mk, ho_a, htold, hfs, hJ, ho_p, ho_e, hef, hes, ho_n, ho_m, hiv0, hiv1, hiv2, hiv3, hiv4, hiv5, hiv6, hiv7, hzt, hVQ, hst, hE, hCH⟩ := hinv
  have hP : hq_P cs G (fun _ => true) V9 V9 := hq_P.rf hI
  have hb_c_fs := hq_rng c_fs
  have hb_q_fk := hq_rng q_fk
  have hb_q_fp := hq_rng q_fp
  have hb_q_nx := hq_rng q_nx
  have hb_q_tk := hq_rng q_tk
  have hb_q_st := hq_rng q_st
  have hb_e_fd := hq_rng e_fd
  have hb_e_sz := hq_rng e_sz
  have hb_p_z := hq_rng p_z
  have hb_m_tp := hq_rng m_tp
  have hb_m_sz := hq_rng m_sz
  have hb_m_fr := hq_rng m_fr
  have hb_m_bh := hq_rng m_bh
  have hb_m_hd := hq_rng m_hd
  have hb_m_ft := hq_rng m_ft
  have hb_m_fa := hq_rng m_fa
  have hb_m_le := hq_rng m_le
  have hb_m_fo := hq_rng m_fo
  have hb_m_as := hq_rng m_as
  have hb_m_fd := hq_rng m_fd
  have hb_m_bc := hq_rng m_bc
  have hb_m_bg := hq_rng m_bg
  have hb_m_bs := hq_rng m_bs
  have hb_m_be := hq_rng m_be
  have hb_m_b0 := hq_rng m_b0
  have hb_m_b1 := hq_rng m_b1
  have hb_m_cm := hq_rng m_cm
  have hb_m_hc := hq_rng m_hc
  have hb_i := hq_rng i
  rcases htold with ⟨rfl, rfl⟩ | ⟨rfl, rfl⟩
  · refine lv_aload_n hx hb dL_law_524 rfl (lv_at hl 2 rfl) ?_
    refine hp_calli (hp_runV (As := []) (rest := []) hx hb hml hown hts (t_X11_read_0 l D cs B G  V9 n hP.1  (a) ty0 ho_a ty1 ty3 ty5 ty6 ty7 ty16 ty17 ty18 ty19 (by omega) ho_n ty2 (by omega) hJ) hZ ho_a cv_L_58 rfl rfl ⟨Nat.le_of_ble_eq_true rfl, Nat.le_of_ble_eq_true rfl⟩ rfl hl.1 rfl (Nat.le_of_ble_eq_true rfl) dL_law_525 ⟨(Nat.le_of_ble_eq_true rfl), (Nat.le_of_ble_eq_true rfl)⟩) hZ (fun r4 V1 n2 _ _ hw3 hZ => ?_)
    obtain ⟨rfl, hq5, ⟨z7, ho8, hi9⟩, ⟨z10, ho11, hi12, hi13⟩, hr6⟩ := hw3
    have hP := hP.trans hq5 (fun _ h => Bool.noConfusion h)
    have b14 := hq_rng z7
    have b15 := hq_rng z10
    have b16 := hq_rng r4
    refine lv_pop hx hb dL_law_528 rfl ?_
    refine lv_aload_n hx hb dL_law_529 rfl (lv_at hl 1 rfl) ?_
    have fx23 : V1 (mo) = some (.inr (13, hm_o q (m_tp) (m_sz) (m_fr) (m_bh) (m_hd) (m_ft) (m_fa) (m_le) (m_fo) (m_as) (m_fd) (m_bc) (m_bg) (m_bs) (m_be) (m_b0) (m_b1) (m_cm) (m_hc))) := (hq5.2 (mo) _ ty20 rfl).trans (ho_m)
    refine hp_calli (hp_runV (As := []) (rest := []) hx hb hml hown hts (t_X13_read l D cs B G  V1 n hP.1 q hR (mo) ty20 fx23  (by omega) (by omega) (by omega) (by omega) (by omega) (by omega) (by omega) (by omega) (hVQ.keep hR (fun x t hx hg => hq5.2 x t hx (by simp [hg])))) hZ fx23 cv_L_61 rfl rfl ⟨Nat.le_of_ble_eq_true rfl, Nat.le_of_ble_eq_true rfl⟩ rfl hl.1 rfl (Nat.le_of_ble_eq_true rfl) dL_law_530 ⟨(Nat.le_of_ble_eq_true rfl), (Nat.le_of_ble_eq_true rfl)⟩) hZ (fun r20 V17 n18 _ _ hw19 hZ => ?_)
    obtain ⟨rfl, hq21, ⟨z24, z25, z26, z27, z28, ho29, hi30, hi31, hi32, hi33, hi34, hi35⟩, hr22⟩ := hw19
    have hP := hP.trans hq21 (fun _ h => Bool.noConfusion h)
    have b36 := hq_rng z24
    have b37 := hq_rng z27
    have b38 := hq_rng z26
    have b39 := hq_rng z25
    have b40 := hq_rng z28
    have b41 := hq_rng r20
    refine lv_pop hx hb dL_law_533 rfl ?_
    refine lv_goto (tgt := 761) hx hb dL_law_534 (by decide) ?_
    have fx42 : V17 (a) = some (.inr (11, [.ref (nb), .ref (nb + 2), .ref (nb + 5), .ref (nb + 46), .ref (nb + 50), .ref (nb + 62), .ref (nb + 87), .int (z7), .ref (nb + 88), .ref (nb + 465)])) := (hq21.2 (a) _ ty0 rfl).trans (ho8)
    have fx43 : V17 (nb + 2) = some (.inr (7, [.int (q_fk), .int (q_fp), q_tx, q_ou, .int (q_nx), .int (q_tk), .int (q_st), .ref (nb + 3)])) := (hq21.2 (nb + 2) _ ty3 rfl).trans ((hq5.2 (nb + 2) _ ty3 rfl).trans (ho_p))
    have fx44 : V17 (nb + 50) = some (.inr (1, [.ref (nb + 51), .ref (nb + 52), .int (e_fd), .ref (nb + 53), .ref (nb + 55), .ref (nb + 57), e_bk, e_an, e_mk, .int (e_sz), .ref (nb + 59), .ref (nb + 60), .ref (nb + 61)])) := (hq21.2 (nb + 50) _ ty7 rfl).trans ((hq5.2 (nb + 50) _ ty7 rfl).trans (ho_e))
    have fx45 : V17 (nb) = some (.inr (9, [.ref (nb + 1), .int (z10)])) := (hq21.2 (nb) _ ty1 rfl).trans (ho11)
    have hinv9 : hk_InvX cs G a nb mo q V17 := ⟨hP.1, _, _, _, _, _, _, _, _, _, _, _, _, _, _, _, _, _, _, _, _, _, _, _, _, _, _, _, _, _, _, _, _, _, _, _, fx42, Or.inl ⟨rfl, rfl⟩, by omega, (hJ.keep hP.1 ty18 (fun x t hx hg => (hq_lgp hq21 hx hg (fun _ => rfl)).trans (hq_lgp hq5 hx hg (fun _ => rfl)))), fx43, fx44, by omega, by omega, fx45, ho29, by omega, by omega, by omega, by omega, by omega, by omega, by omega, by omega, by omega, (hVQ.keep hR (fun x t hx hg => (hq21.2 x t hx (by simp [hg])).trans (hq5.2 x t hx (by simp [hg])))), (by obtain ⟨fs9, h9⟩ := hst; exact ⟨fs9, ((hq21.2 (q + 19) _ (hr_19 hR) rfl).trans (hq5.2 (q + 19) _ (hr_19 hR) rfl)).trans h9⟩), (hE.keep0 (Or.inl rfl) (fun x hx => (hT2.fr hq21 (fun g hg => by first | rfl | (unfold hk_gr at hg; simp; omega)) x hx).trans (hT2.fr hq5 (fun g hg => by first | rfl | (unfold hk_gr at hg; simp; omega)) x hx)) hP.1 ty2 (hr_20 hR) fx45 (by omega)), (hCH.keep (fun x hx => (hT4.fr hq21 (fun g hg => by first | rfl | (simp; omega)) x hx).trans (hT4.fr hq5 (fun g hg => by first | rfl | (simp; omega)) x hx)))⟩
    exact kk _ _ _ ls hZ hinv9 (lv_sub hl [0, 1, 2, 3] rfl)
  · refine lv_aload_n hx hb dL_law_524 rfl (lv_at hl 2 rfl) ?_
    refine hp_calli (hp_runV (As := []) (rest := []) hx hb hml hown hts (t_X11_read_1 l D cs B G  V9 n hP.1  (a) ty0 ho_a ty1 ty3 ty5 ty6 ty7 ty16 ty17 ty19 ty18 (by omega) ho_n ty2 (by omega) hJ) hZ ho_a cv_L_58 rfl rfl ⟨Nat.le_of_ble_eq_true rfl, Nat.le_of_ble_eq_true rfl⟩ rfl hl.1 rfl (Nat.le_of_ble_eq_true rfl) dL_law_525 ⟨(Nat.le_of_ble_eq_true rfl), (Nat.le_of_ble_eq_true rfl)⟩) hZ (fun r4 V1 n2 _ _ hw3 hZ => ?_)
    obtain ⟨rfl, hq5, ⟨z7, ho8, hi9⟩, ⟨z10, ho11, hi12, hi13⟩, hr6⟩ := hw3
    have hP := hP.trans hq5 (fun _ h => Bool.noConfusion h)
    have b14 := hq_rng z7
    have b15 := hq_rng z10
    have b16 := hq_rng r4
    refine lv_pop hx hb dL_law_528 rfl ?_
    refine lv_aload_n hx hb dL_law_529 rfl (lv_at hl 1 rfl) ?_
    have fx23 : V1 (mo) = some (.inr (13, hm_o q (m_tp) (m_sz) (m_fr) (m_bh) (m_hd) (m_ft) (m_fa) (m_le) (m_fo) (m_as) (m_fd) (m_bc) (m_bg) (m_bs) (m_be) (m_b0) (m_b1) (m_cm) (m_hc))) := (hq5.2 (mo) _ ty20 rfl).trans (ho_m)
    refine hp_calli (hp_runV (As := []) (rest := []) hx hb hml hown hts (t_X13_read l D cs B G  V1 n hP.1 q hR (mo) ty20 fx23  (by omega) (by omega) (by omega) (by omega) (by omega) (by omega) (by omega) (by omega) (hVQ.keep hR (fun x t hx hg => hq5.2 x t hx (by simp [hg])))) hZ fx23 cv_L_61 rfl rfl ⟨Nat.le_of_ble_eq_true rfl, Nat.le_of_ble_eq_true rfl⟩ rfl hl.1 rfl (Nat.le_of_ble_eq_true rfl) dL_law_530 ⟨(Nat.le_of_ble_eq_true rfl), (Nat.le_of_ble_eq_true rfl)⟩) hZ (fun r20 V17 n18 _ _ hw19 hZ => ?_)
    obtain ⟨rfl, hq21, ⟨z24, z25, z26, z27, z28, ho29, hi30, hi31, hi32, hi33, hi34, hi35⟩, hr22⟩ := hw19
    have hP := hP.trans hq21 (fun _ h => Bool.noConfusion h)
    have b36 := hq_rng z24
    have b37 := hq_rng z27
    have b38 := hq_rng z26
    have b39 := hq_rng z25
    have b40 := hq_rng z28
    have b41 := hq_rng r20
    refine lv_pop hx hb dL_law_533 rfl ?_
    refine lv_goto (tgt := 761) hx hb dL_law_534 (by decide) ?_
    have fx42 : V17 (a) = some (.inr (11, [.ref (nb), .ref (nb + 2), .ref (nb + 5), .ref (nb + 46), .ref (nb + 50), .ref (nb + 62), .ref (nb + 87), .int (z7), .ref (nb + 465), .ref (nb + 88)])) := (hq21.2 (a) _ ty0 rfl).trans (ho8)
    have fx43 : V17 (nb + 2) = some (.inr (7, [.int (q_fk), .int (q_fp), q_tx, q_ou, .int (q_nx), .int (q_tk), .int (q_st), .ref (nb + 3)])) := (hq21.2 (nb + 2) _ ty3 rfl).trans ((hq5.2 (nb + 2) _ ty3 rfl).trans (ho_p))
    have fx44 : V17 (nb + 50) = some (.inr (1, [.ref (nb + 51), .ref (nb + 52), .int (e_fd), .ref (nb + 53), .ref (nb + 55), .ref (nb + 57), e_bk, e_an, e_mk, .int (e_sz), .ref (nb + 59), .ref (nb + 60), .ref (nb + 61)])) := (hq21.2 (nb + 50) _ ty7 rfl).trans ((hq5.2 (nb + 50) _ ty7 rfl).trans (ho_e))
    have fx45 : V17 (nb) = some (.inr (9, [.ref (nb + 1), .int (z10)])) := (hq21.2 (nb) _ ty1 rfl).trans (ho11)
    have hinv9 : hk_InvX cs G a nb mo q V17 := ⟨hP.1, _, _, _, _, _, _, _, _, _, _, _, _, _, _, _, _, _, _, _, _, _, _, _, _, _, _, _, _, _, _, _, _, _, _, _, fx42, Or.inr ⟨rfl, rfl⟩, by omega, (hJ.keep hP.1 ty19 (fun x t hx hg => (hq_lgp hq21 hx hg (fun _ => rfl)).trans (hq_lgp hq5 hx hg (fun _ => rfl)))), fx43, fx44, by omega, by omega, fx45, ho29, by omega, by omega, by omega, by omega, by omega, by omega, by omega, by omega, by omega, (hVQ.keep hR (fun x t hx hg => (hq21.2 x t hx (by simp [hg])).trans (hq5.2 x t hx (by simp [hg])))), (by obtain ⟨fs9, h9⟩ := hst; exact ⟨fs9, ((hq21.2 (q + 19) _ (hr_19 hR) rfl).trans (hq5.2 (q + 19) _ (hr_19 hR) rfl)).trans h9⟩), (hE.keep0 (Or.inr rfl) (fun x hx => (hT2.fr hq21 (fun g hg => by first | rfl | (unfold hk_gr at hg; simp; omega)) x hx).trans (hT2.fr hq5 (fun g hg => by first | rfl | (unfold hk_gr at hg; simp; omega)) x hx)) hP.1 ty2 (hr_20 hR) fx45 (by omega)), (hCH.keep (fun x hx => (hT4.fr hq21 (fun g hg => by first | rfl | (simp; omega)) x hx).trans (hT4.fr hq5 (fun g hg => by first | rfl | (simp; omega)) x hx)))⟩
    exact kk _ _ _ ls hZ hinv9 (lv_sub hl [0, 1, 2, 3] rfl)

set_option maxHeartbeats 8000000 in
set_option maxRecDepth 100000 in
theorem hx_c_place {p : Program} {e : Env} {s : State} {m : MethodId} {below : List Frame} {meth : Method} {c : Code} (l : Launch) (D : va_G) (cs : Nat → ClassId) (B : Nat) (G : hq_G) {b L : Nat} {xs : Nat → Int32} (hx : p.tables.exec = Jvm.exec) (hb : c.code = code) (hml : c.maxLocals = 4) (hown : s.vm.findClass RL = some m.cls) (hts : ∀ w ∈ TBG, w.before #[Value.ref b] s = true) (hX : va_X b L xs s s.heap) (hbl : b < s.heap.size) (hbA : ¬ hp_F B b) (hL : L ≤ 3072) (a nb mo q n : Nat) (hT : hk_Ty G a nb mo q) (hT2 : hk_T2 G nb q) (hT3 : hk_T3 G nb) (hT4 : hk_T4 G nb q) (hak : a + 1 = nb) (hmo9 : mo = nb + 842) (hq9 : q = nb + 843) (i : Int32) (hi0 : 0 ≤ i.toInt) (hi1 : i.toInt + 6 ≤ L) (kk : ∀ (V9 : hp_V) (H9 : Heap) (locs9 : List Loc) (ls : Array Slot), hp_Z D cs B s V9 H9 n locs9 → hk_InvX cs G a nb mo q V9 → lv_has ls 4 [(3, .int i), (2, .ref mo), (1, .ref a), (0, .ref b)] → W p l e room_1 s m #[Value.ref b] below meth c H9 locs9 891 28710 (lw_Z below #[Value.ref b] s) (F0 m 761 ls [])) (V9 : hp_V) (H9 : Heap) (locs9 : List Loc) (ls : Array Slot) (hZ : hp_Z D cs B s V9 H9 n locs9) (hinv : hk_InvX cs G a nb mo q V9) (hl : lv_has ls 4 [(3, .int i), (2, .ref mo), (1, .ref a), (0, .ref b)]) : W p l e room_1 s m #[Value.ref b] below meth c H9 locs9 891 28710 (lw_Z below #[Value.ref b] s) (F0 m 537 ls []) := by
  obtain ⟨ty0, ty1, ty2, ty3, ty4, ty5, ty6, ty7, ty8, ty9, ty10, ty11, ty12, ty13, ty14, ty15, ty16, ty17, ty18, ty19, ty20, hR⟩ := id hT
  obtain ⟨hI, c_fs, q_fk, q_fp, q_nx, q_tk, q_st, e_fd, e_sz, p_z, m_tp, m_sz, m_fr, m_bh, m_hd, m_ft, m_fa, m_le, m_fo, m_as, m_fd, m_bc, m_bg, m_bs, m_be, m_b0, m_b1, m_cm, m_hc, c_to, c_sp, q_tx, q_ou, e_bk, e_an, e_mk, ho_a, htold, hfs, hJ, ho_p, ho_e, hef, hes, ho_n, ho_m, hiv0, hiv1, hiv2, hiv3, hiv4, hiv5, hiv6, hiv7, hzt, hVQ, hst, hE, hCH⟩ := hinv
  have hP : hq_P cs G (fun _ => true) V9 V9 := hq_P.rf hI
  have hb_c_fs := hq_rng c_fs
  have hb_q_fk := hq_rng q_fk
  have hb_q_fp := hq_rng q_fp
  have hb_q_nx := hq_rng q_nx
  have hb_q_tk := hq_rng q_tk
  have hb_q_st := hq_rng q_st
  have hb_e_fd := hq_rng e_fd
  have hb_e_sz := hq_rng e_sz
  have hb_p_z := hq_rng p_z
  have hb_m_tp := hq_rng m_tp
  have hb_m_sz := hq_rng m_sz
  have hb_m_fr := hq_rng m_fr
  have hb_m_bh := hq_rng m_bh
  have hb_m_hd := hq_rng m_hd
  have hb_m_ft := hq_rng m_ft
  have hb_m_fa := hq_rng m_fa
  have hb_m_le := hq_rng m_le
  have hb_m_fo := hq_rng m_fo
  have hb_m_as := hq_rng m_as
  have hb_m_fd := hq_rng m_fd
  have hb_m_bc := hq_rng m_bc
  have hb_m_bg := hq_rng m_bg
  have hb_m_bs := hq_rng m_bs
  have hb_m_be := hq_rng m_be
  have hb_m_b0 := hq_rng m_b0
  have hb_m_b1 := hq_rng m_b1
  have hb_m_cm := hq_rng m_cm
  have hb_m_hc := hq_rng m_hc
  have hb_i := hq_rng i
  rcases htold with ⟨rfl, rfl⟩ | ⟨rfl, rfl⟩
  · refine lv_aload_n hx hb dL_law_537 rfl (lv_at hl 2 rfl) ?_
    refine lv_aload_n hx hb dL_law_538 rfl (lv_at hl 3 rfl) ?_
    refine lv_iload_n hx hb dL_law_539 rfl (lv_at hl 0 rfl) ?_
    refine lv_iconst (v := 1) hx hb dL_law_540 (by decide) ?_
    refine lv_iadd hx hb dL_law_541 ?_
    refine va_sld hx hb hX hbl hbA hZ.2.1 (hk_ix hi0 hi1 hL (by decide) (by decide)) dL_law_542 ?_
    refine lv_topi (fun y1 ey2 => ?_)
    refine lv_aload_n hx hb dL_law_543 rfl (lv_at hl 3 rfl) ?_
    refine lv_iload_n hx hb dL_law_544 rfl (lv_at hl 0 rfl) ?_
    refine lv_iconst (v := 2) hx hb dL_law_545 (by decide) ?_
    refine lv_iadd hx hb dL_law_546 ?_
    refine va_sld hx hb hX hbl hbA hZ.2.1 (hk_ix hi0 hi1 hL (by decide) (by decide)) dL_law_547 ?_
    refine lv_topi (fun y3 ey4 => ?_)
    refine hp_calli (hp_runV (As := [.int (y1), .int (y3)]) (rest := []) hx hb hml hown hts (t_X11_place_0 l D cs B G  V9 n hP.1  (a) ty0 (y1) (y3) ho_a ty1 ty3 ty5 ty6 ty7 ty16 ty17 ty18 ty19 (by omega) ) hZ ho_a cv_L_62 rfl rfl ⟨Nat.le_of_ble_eq_true rfl, Nat.le_of_ble_eq_true rfl⟩ rfl hl.1 rfl (Nat.le_of_ble_eq_true rfl) dL_law_548 ⟨(Nat.le_of_ble_eq_true rfl), (Nat.le_of_ble_eq_true rfl)⟩) hZ (fun r8 V5 n6 _ _ hw7 hZ => ?_)
    obtain ⟨rfl, hq9, ho11, hr10⟩ := hw7
    have hP := hP.trans hq9 (fun _ _ => rfl)
    have b12 := hq_rng r8
    refine lv_pop hx hb dL_law_551 rfl ?_
    refine lv_aload_n hx hb dL_law_552 rfl (lv_at hl 1 rfl) ?_
    refine lv_aload_n hx hb dL_law_553 rfl (lv_at hl 3 rfl) ?_
    refine lv_iload_n hx hb dL_law_554 rfl (lv_at hl 0 rfl) ?_
    refine lv_iconst (v := 1) hx hb dL_law_555 (by decide) ?_
    refine lv_iadd hx hb dL_law_556 ?_
    refine va_sld hx hb hX hbl hbA hZ.2.1 (hk_ix hi0 hi1 hL (by decide) (by decide)) dL_law_557 ?_
    refine lv_topi (fun y13 ey14 => ?_)
    have b15 : y1 = y13 := by rw [ey14, ey2]
    subst b15
    refine lv_aload_n hx hb dL_law_558 rfl (lv_at hl 3 rfl) ?_
    refine lv_iload_n hx hb dL_law_559 rfl (lv_at hl 0 rfl) ?_
    refine lv_iconst (v := 2) hx hb dL_law_560 (by decide) ?_
    refine lv_iadd hx hb dL_law_561 ?_
    refine va_sld hx hb hX hbl hbA hZ.2.1 (hk_ix hi0 hi1 hL (by decide) (by decide)) dL_law_562 ?_
    refine lv_topi (fun y16 ey17 => ?_)
    have b18 : y3 = y16 := by rw [ey17, ey4]
    subst b18
    have fx25 : V5 (mo) = some (.inr (13, hm_o q (m_tp) (m_sz) (m_fr) (m_bh) (m_hd) (m_ft) (m_fa) (m_le) (m_fo) (m_as) (m_fd) (m_bc) (m_bg) (m_bs) (m_be) (m_b0) (m_b1) (m_cm) (m_hc))) := (hq9.2 (mo) _ ty20 rfl).trans (ho_m)
    refine hp_calli (hp_runV (As := [.int (y1), .int (y3)]) (rest := []) hx hb hml hown hts (t_X13_place l D cs B G  V5 n hP.1 q hR (mo) ty20 (y1) (y3) fx25  (by omega) (by omega) (by omega) (by omega) (by omega) (by omega) (by omega) (by omega) ) hZ fx25 cv_L_65 rfl rfl ⟨Nat.le_of_ble_eq_true rfl, Nat.le_of_ble_eq_true rfl⟩ rfl hl.1 rfl (Nat.le_of_ble_eq_true rfl) dL_law_563 ⟨(Nat.le_of_ble_eq_true rfl), (Nat.le_of_ble_eq_true rfl)⟩) hZ (fun r22 V19 n20 _ _ hw21 hZ => ?_)
    obtain ⟨rfl, hq23, ho26, hr24⟩ := hw21
    have hP := hP.trans hq23 (fun _ _ => rfl)
    have b27 := hq_rng r22
    refine lv_pop hx hb dL_law_566 rfl ?_
    refine lv_goto (tgt := 761) hx hb dL_law_567 (by decide) ?_
    have fx28 : V19 (a) = some (.inr (11, [.ref (nb), .ref (nb + 2), .ref (nb + 5), .ref (nb + 46), .ref (nb + 50), .ref (nb + 62), .ref (nb + 87), .int (c_fs), .ref (nb + 88), .ref (nb + 465)])) := (hq23.2 (a) _ ty0 rfl).trans (ho11)
    have fx29 : V19 (nb + 2) = some (.inr (7, [.int (q_fk), .int (q_fp), q_tx, q_ou, .int (q_nx), .int (q_tk), .int (q_st), .ref (nb + 3)])) := (hq23.2 (nb + 2) _ ty3 rfl).trans ((hq9.2 (nb + 2) _ ty3 rfl).trans (ho_p))
    have fx30 : V19 (nb + 50) = some (.inr (1, [.ref (nb + 51), .ref (nb + 52), .int (e_fd), .ref (nb + 53), .ref (nb + 55), .ref (nb + 57), e_bk, e_an, e_mk, .int (e_sz), .ref (nb + 59), .ref (nb + 60), .ref (nb + 61)])) := (hq23.2 (nb + 50) _ ty7 rfl).trans ((hq9.2 (nb + 50) _ ty7 rfl).trans (ho_e))
    have fx31 : V19 (nb) = some (.inr (9, [.ref (nb + 1), .int (p_z)])) := (hq23.2 (nb) _ ty1 rfl).trans ((hq9.2 (nb) _ ty1 rfl).trans (ho_n))
    have hinv9 : hk_InvX cs G a nb mo q V19 := ⟨hP.1, _, _, _, _, _, _, _, _, _, _, _, _, _, _, _, _, _, _, _, _, _, _, _, _, _, _, _, _, _, _, _, _, _, _, _, fx28, Or.inl ⟨rfl, rfl⟩, by omega, (hJ.keep hP.1 ty18 (fun x t hx hg => (hq_lgp hq23 hx hg (fun _ => rfl)).trans (hq_lgp hq9 hx hg (fun _ => rfl)))), fx29, fx30, by omega, by omega, fx31, ho26, by omega, by omega, by omega, by omega, by omega, by omega, by omega, by omega, by omega, (hVQ.keep hR (fun x t hx hg => (hq23.2 x t hx (by simp [hg])).trans (hq9.2 x t hx (by simp [hg])))), (by obtain ⟨fs9, h9⟩ := hst; exact ⟨fs9, ((hq23.2 (q + 19) _ (hr_19 hR) rfl).trans (hq9.2 (q + 19) _ (hr_19 hR) rfl)).trans h9⟩), (hE.keep (Or.inl rfl) (fun x hx => (hT2.fr hq23 (fun g hg => by first | rfl | (unfold hk_gr at hg; simp; omega)) x hx).trans (hT2.fr hq9 (fun g hg => by first | rfl | (unfold hk_gr at hg; simp; omega)) x hx)) ((hq23.2 _ _ ty1 rfl).trans (hq9.2 _ _ ty1 rfl)) ((hq23.2 _ _ ty2 rfl).trans (hq9.2 _ _ ty2 rfl)) ((hq23.2 _ _ (hr_20 hR) rfl).trans (hq9.2 _ _ (hr_20 hR) rfl))), (hCH.keep (fun x hx => (hT4.fr hq23 (fun g hg => by first | rfl | (simp; omega)) x hx).trans (hT4.fr hq9 (fun g hg => by first | rfl | (simp; omega)) x hx)))⟩
    exact kk _ _ _ ls hZ hinv9 (lv_sub hl [0, 1, 2, 3] rfl)
  · refine lv_aload_n hx hb dL_law_537 rfl (lv_at hl 2 rfl) ?_
    refine lv_aload_n hx hb dL_law_538 rfl (lv_at hl 3 rfl) ?_
    refine lv_iload_n hx hb dL_law_539 rfl (lv_at hl 0 rfl) ?_
    refine lv_iconst (v := 1) hx hb dL_law_540 (by decide) ?_
    refine lv_iadd hx hb dL_law_541 ?_
    refine va_sld hx hb hX hbl hbA hZ.2.1 (hk_ix hi0 hi1 hL (by decide) (by decide)) dL_law_542 ?_
    refine lv_topi (fun y1 ey2 => ?_)
    refine lv_aload_n hx hb dL_law_543 rfl (lv_at hl 3 rfl) ?_
    refine lv_iload_n hx hb dL_law_544 rfl (lv_at hl 0 rfl) ?_
    refine lv_iconst (v := 2) hx hb dL_law_545 (by decide) ?_
    refine lv_iadd hx hb dL_law_546 ?_
    refine va_sld hx hb hX hbl hbA hZ.2.1 (hk_ix hi0 hi1 hL (by decide) (by decide)) dL_law_547 ?_
    refine lv_topi (fun y3 ey4 => ?_)
    refine hp_calli (hp_runV (As := [.int (y1), .int (y3)]) (rest := []) hx hb hml hown hts (t_X11_place_1 l D cs B G  V9 n hP.1  (a) ty0 (y1) (y3) ho_a ty1 ty3 ty5 ty6 ty7 ty16 ty17 ty19 ty18 (by omega) ) hZ ho_a cv_L_62 rfl rfl ⟨Nat.le_of_ble_eq_true rfl, Nat.le_of_ble_eq_true rfl⟩ rfl hl.1 rfl (Nat.le_of_ble_eq_true rfl) dL_law_548 ⟨(Nat.le_of_ble_eq_true rfl), (Nat.le_of_ble_eq_true rfl)⟩) hZ (fun r8 V5 n6 _ _ hw7 hZ => ?_)
    obtain ⟨rfl, hq9, ho11, hr10⟩ := hw7
    have hP := hP.trans hq9 (fun _ _ => rfl)
    have b12 := hq_rng r8
    refine lv_pop hx hb dL_law_551 rfl ?_
    refine lv_aload_n hx hb dL_law_552 rfl (lv_at hl 1 rfl) ?_
    refine lv_aload_n hx hb dL_law_553 rfl (lv_at hl 3 rfl) ?_
    refine lv_iload_n hx hb dL_law_554 rfl (lv_at hl 0 rfl) ?_
    refine lv_iconst (v := 1) hx hb dL_law_555 (by decide) ?_
    refine lv_iadd hx hb dL_law_556 ?_
    refine va_sld hx hb hX hbl hbA hZ.2.1 (hk_ix hi0 hi1 hL (by decide) (by decide)) dL_law_557 ?_
    refine lv_topi (fun y13 ey14 => ?_)
    have b15 : y1 = y13 := by rw [ey14, ey2]
    subst b15
    refine lv_aload_n hx hb dL_law_558 rfl (lv_at hl 3 rfl) ?_
    refine lv_iload_n hx hb dL_law_559 rfl (lv_at hl 0 rfl) ?_
    refine lv_iconst (v := 2) hx hb dL_law_560 (by decide) ?_
    refine lv_iadd hx hb dL_law_561 ?_
    refine va_sld hx hb hX hbl hbA hZ.2.1 (hk_ix hi0 hi1 hL (by decide) (by decide)) dL_law_562 ?_
    refine lv_topi (fun y16 ey17 => ?_)
    have b18 : y3 = y16 := by rw [ey17, ey4]
    subst b18
    have fx25 : V5 (mo) = some (.inr (13, hm_o q (m_tp) (m_sz) (m_fr) (m_bh) (m_hd) (m_ft) (m_fa) (m_le) (m_fo) (m_as) (m_fd) (m_bc) (m_bg) (m_bs) (m_be) (m_b0) (m_b1) (m_cm) (m_hc))) := (hq9.2 (mo) _ ty20 rfl).trans (ho_m)
    refine hp_calli (hp_runV (As := [.int (y1), .int (y3)]) (rest := []) hx hb hml hown hts (t_X13_place l D cs B G  V5 n hP.1 q hR (mo) ty20 (y1) (y3) fx25  (by omega) (by omega) (by omega) (by omega) (by omega) (by omega) (by omega) (by omega) ) hZ fx25 cv_L_65 rfl rfl ⟨Nat.le_of_ble_eq_true rfl, Nat.le_of_ble_eq_true rfl⟩ rfl hl.1 rfl (Nat.le_of_ble_eq_true rfl) dL_law_563 ⟨(Nat.le_of_ble_eq_true rfl), (Nat.le_of_ble_eq_true rfl)⟩) hZ (fun r22 V19 n20 _ _ hw21 hZ => ?_)
    obtain ⟨rfl, hq23, ho26, hr24⟩ := hw21
    have hP := hP.trans hq23 (fun _ _ => rfl)
    have b27 := hq_rng r22
    refine lv_pop hx hb dL_law_566 rfl ?_
    refine lv_goto (tgt := 761) hx hb dL_law_567 (by decide) ?_
    have fx28 : V19 (a) = some (.inr (11, [.ref (nb), .ref (nb + 2), .ref (nb + 5), .ref (nb + 46), .ref (nb + 50), .ref (nb + 62), .ref (nb + 87), .int (c_fs), .ref (nb + 465), .ref (nb + 88)])) := (hq23.2 (a) _ ty0 rfl).trans (ho11)
    have fx29 : V19 (nb + 2) = some (.inr (7, [.int (q_fk), .int (q_fp), q_tx, q_ou, .int (q_nx), .int (q_tk), .int (q_st), .ref (nb + 3)])) := (hq23.2 (nb + 2) _ ty3 rfl).trans ((hq9.2 (nb + 2) _ ty3 rfl).trans (ho_p))
    have fx30 : V19 (nb + 50) = some (.inr (1, [.ref (nb + 51), .ref (nb + 52), .int (e_fd), .ref (nb + 53), .ref (nb + 55), .ref (nb + 57), e_bk, e_an, e_mk, .int (e_sz), .ref (nb + 59), .ref (nb + 60), .ref (nb + 61)])) := (hq23.2 (nb + 50) _ ty7 rfl).trans ((hq9.2 (nb + 50) _ ty7 rfl).trans (ho_e))
    have fx31 : V19 (nb) = some (.inr (9, [.ref (nb + 1), .int (p_z)])) := (hq23.2 (nb) _ ty1 rfl).trans ((hq9.2 (nb) _ ty1 rfl).trans (ho_n))
    have hinv9 : hk_InvX cs G a nb mo q V19 := ⟨hP.1, _, _, _, _, _, _, _, _, _, _, _, _, _, _, _, _, _, _, _, _, _, _, _, _, _, _, _, _, _, _, _, _, _, _, _, fx28, Or.inr ⟨rfl, rfl⟩, by omega, (hJ.keep hP.1 ty19 (fun x t hx hg => (hq_lgp hq23 hx hg (fun _ => rfl)).trans (hq_lgp hq9 hx hg (fun _ => rfl)))), fx29, fx30, by omega, by omega, fx31, ho26, by omega, by omega, by omega, by omega, by omega, by omega, by omega, by omega, by omega, (hVQ.keep hR (fun x t hx hg => (hq23.2 x t hx (by simp [hg])).trans (hq9.2 x t hx (by simp [hg])))), (by obtain ⟨fs9, h9⟩ := hst; exact ⟨fs9, ((hq23.2 (q + 19) _ (hr_19 hR) rfl).trans (hq9.2 (q + 19) _ (hr_19 hR) rfl)).trans h9⟩), (hE.keep (Or.inr rfl) (fun x hx => (hT2.fr hq23 (fun g hg => by first | rfl | (unfold hk_gr at hg; simp; omega)) x hx).trans (hT2.fr hq9 (fun g hg => by first | rfl | (unfold hk_gr at hg; simp; omega)) x hx)) ((hq23.2 _ _ ty1 rfl).trans (hq9.2 _ _ ty1 rfl)) ((hq23.2 _ _ ty2 rfl).trans (hq9.2 _ _ ty2 rfl)) ((hq23.2 _ _ (hr_20 hR) rfl).trans (hq9.2 _ _ (hr_20 hR) rfl))), (hCH.keep (fun x hx => (hT4.fr hq23 (fun g hg => by first | rfl | (simp; omega)) x hx).trans (hT4.fr hq9 (fun g hg => by first | rfl | (simp; omega)) x hx)))⟩
    exact kk _ _ _ ls hZ hinv9 (lv_sub hl [0, 1, 2, 3] rfl)

set_option maxHeartbeats 8000000 in
set_option maxRecDepth 100000 in
theorem hx_c_unused {p : Program} {e : Env} {s : State} {m : MethodId} {below : List Frame} {meth : Method} {c : Code} (l : Launch) (D : va_G) (cs : Nat → ClassId) (B : Nat) (G : hq_G) {b L : Nat} {xs : Nat → Int32} (hx : p.tables.exec = Jvm.exec) (hb : c.code = code) (hml : c.maxLocals = 4) (hown : s.vm.findClass RL = some m.cls) (hts : ∀ w ∈ TBG, w.before #[Value.ref b] s = true) (hX : va_X b L xs s s.heap) (hbl : b < s.heap.size) (hbA : ¬ hp_F B b) (hL : L ≤ 3072) (a nb mo q n : Nat) (hT : hk_Ty G a nb mo q) (hT2 : hk_T2 G nb q) (hT3 : hk_T3 G nb) (hT4 : hk_T4 G nb q) (hak : a + 1 = nb) (hmo9 : mo = nb + 842) (hq9 : q = nb + 843) (i : Int32) (hi0 : 0 ≤ i.toInt) (hi1 : i.toInt + 6 ≤ L) (kk : ∀ (V9 : hp_V) (H9 : Heap) (locs9 : List Loc) (ls : Array Slot), hp_Z D cs B s V9 H9 n locs9 → hk_InvX cs G a nb mo q V9 → lv_has ls 4 [(3, .int i), (2, .ref mo), (1, .ref a), (0, .ref b)] → W p l e room_1 s m #[Value.ref b] below meth c H9 locs9 891 28710 (lw_Z below #[Value.ref b] s) (F0 m 761 ls [])) (V9 : hp_V) (H9 : Heap) (locs9 : List Loc) (ls : Array Slot) (hZ : hp_Z D cs B s V9 H9 n locs9) (hinv : hk_InvX cs G a nb mo q V9) (hl : lv_has ls 4 [(3, .int i), (2, .ref mo), (1, .ref a), (0, .ref b)]) : W p l e room_1 s m #[Value.ref b] below meth c H9 locs9 891 28710 (lw_Z below #[Value.ref b] s) (F0 m 570 ls []) := by
  obtain ⟨ty0, ty1, ty2, ty3, ty4, ty5, ty6, ty7, ty8, ty9, ty10, ty11, ty12, ty13, ty14, ty15, ty16, ty17, ty18, ty19, ty20, hR⟩ := id hT
  obtain ⟨hI, c_fs, q_fk, q_fp, q_nx, q_tk, q_st, e_fd, e_sz, p_z, m_tp, m_sz, m_fr, m_bh, m_hd, m_ft, m_fa, m_le, m_fo, m_as, m_fd, m_bc, m_bg, m_bs, m_be, m_b0, m_b1, m_cm, m_hc, c_to, c_sp, q_tx, q_ou, e_bk, e_an, e_mk, ho_a, htold, hfs, hJ, ho_p, ho_e, hef, hes, ho_n, ho_m, hiv0, hiv1, hiv2, hiv3, hiv4, hiv5, hiv6, hiv7, hzt, hVQ, hst, hE, hCH⟩ := hinv
  have hP : hq_P cs G (fun _ => true) V9 V9 := hq_P.rf hI
  have hb_c_fs := hq_rng c_fs
  have hb_q_fk := hq_rng q_fk
  have hb_q_fp := hq_rng q_fp
  have hb_q_nx := hq_rng q_nx
  have hb_q_tk := hq_rng q_tk
  have hb_q_st := hq_rng q_st
  have hb_e_fd := hq_rng e_fd
  have hb_e_sz := hq_rng e_sz
  have hb_p_z := hq_rng p_z
  have hb_m_tp := hq_rng m_tp
  have hb_m_sz := hq_rng m_sz
  have hb_m_fr := hq_rng m_fr
  have hb_m_bh := hq_rng m_bh
  have hb_m_hd := hq_rng m_hd
  have hb_m_ft := hq_rng m_ft
  have hb_m_fa := hq_rng m_fa
  have hb_m_le := hq_rng m_le
  have hb_m_fo := hq_rng m_fo
  have hb_m_as := hq_rng m_as
  have hb_m_fd := hq_rng m_fd
  have hb_m_bc := hq_rng m_bc
  have hb_m_bg := hq_rng m_bg
  have hb_m_bs := hq_rng m_bs
  have hb_m_be := hq_rng m_be
  have hb_m_b0 := hq_rng m_b0
  have hb_m_b1 := hq_rng m_b1
  have hb_m_cm := hq_rng m_cm
  have hb_m_hc := hq_rng m_hc
  have hb_i := hq_rng i
  rcases htold with ⟨rfl, rfl⟩ | ⟨rfl, rfl⟩
  · refine lv_aload_n hx hb dL_law_570 rfl (lv_at hl 2 rfl) ?_
    refine hp_calli (hp_runV (As := []) (rest := []) hx hb hml hown hts (t_X11_unused_0 l D cs B G  V9 n hP.1  (a) ty0 ho_a ty1 ty3 ty5 ty6 ty7 ty16 ty17 ty18 ty19 (by omega) hJ) hZ ho_a cv_L_66 rfl rfl ⟨Nat.le_of_ble_eq_true rfl, Nat.le_of_ble_eq_true rfl⟩ rfl hl.1 rfl (Nat.le_of_ble_eq_true rfl) dL_law_571 ⟨(Nat.le_of_ble_eq_true rfl), (Nat.le_of_ble_eq_true rfl)⟩) hZ (fun r4 V1 n2 _ _ hw3 hZ => ?_)
    obtain ⟨rfl, hq5, ho7, hr6⟩ := hw3
    have hP := hP.trans hq5 (fun _ h => Bool.noConfusion h)
    have b8 := hq_rng r4
    refine lv_pop hx hb dL_law_574 rfl ?_
    refine lv_aload_n hx hb dL_law_575 rfl (lv_at hl 1 rfl) ?_
    have fx15 : V1 (mo) = some (.inr (13, hm_o q (m_tp) (m_sz) (m_fr) (m_bh) (m_hd) (m_ft) (m_fa) (m_le) (m_fo) (m_as) (m_fd) (m_bc) (m_bg) (m_bs) (m_be) (m_b0) (m_b1) (m_cm) (m_hc))) := (hq5.2 (mo) _ ty20 rfl).trans (ho_m)
    refine hp_calli (hp_runV (As := []) (rest := []) hx hb hml hown hts (t_X13_unused l D cs B G  V1 n hP.1 q hR (mo) ty20 fx15  (by omega) (by omega) (by omega) (by omega) (by omega) (by omega) (by omega) (by omega) (hVQ.keep hR (fun x t hx hg => hq5.2 x t hx (by simp [hg])))) hZ fx15 cv_L_69 rfl rfl ⟨Nat.le_of_ble_eq_true rfl, Nat.le_of_ble_eq_true rfl⟩ rfl hl.1 rfl (Nat.le_of_ble_eq_true rfl) dL_law_576 ⟨(Nat.le_of_ble_eq_true rfl), (Nat.le_of_ble_eq_true rfl)⟩) hZ (fun r12 V9 n10 _ _ hw11 hZ => ?_)
    obtain ⟨rfl, hq13, ⟨z16, z17, ho18, hi19, hi20⟩, hr14⟩ := hw11
    have hP := hP.trans hq13 (fun _ h => Bool.noConfusion h)
    have b21 := hq_rng z17
    have b22 := hq_rng z16
    have b23 := hq_rng r12
    refine lv_pop hx hb dL_law_579 rfl ?_
    refine lv_goto (tgt := 761) hx hb dL_law_580 (by decide) ?_
    have fx24 : V9 (a) = some (.inr (11, [.ref (nb), .ref (nb + 2), .ref (nb + 5), .ref (nb + 46), .ref (nb + 50), .ref (nb + 62), .ref (nb + 87), .int (c_fs), .ref (nb + 88), .ref (nb + 465)])) := (hq13.2 (a) _ ty0 rfl).trans (ho7)
    have fx25 : V9 (nb + 2) = some (.inr (7, [.int (q_fk), .int (q_fp), q_tx, q_ou, .int (q_nx), .int (q_tk), .int (q_st), .ref (nb + 3)])) := (hq13.2 (nb + 2) _ ty3 rfl).trans ((hq5.2 (nb + 2) _ ty3 rfl).trans (ho_p))
    have fx26 : V9 (nb + 50) = some (.inr (1, [.ref (nb + 51), .ref (nb + 52), .int (e_fd), .ref (nb + 53), .ref (nb + 55), .ref (nb + 57), e_bk, e_an, e_mk, .int (e_sz), .ref (nb + 59), .ref (nb + 60), .ref (nb + 61)])) := (hq13.2 (nb + 50) _ ty7 rfl).trans ((hq5.2 (nb + 50) _ ty7 rfl).trans (ho_e))
    have fx27 : V9 (nb) = some (.inr (9, [.ref (nb + 1), .int (p_z)])) := (hq13.2 (nb) _ ty1 rfl).trans ((hq5.2 (nb) _ ty1 rfl).trans (ho_n))
    have hinv9 : hk_InvX cs G a nb mo q V9 := ⟨hP.1, _, _, _, _, _, _, _, _, _, _, _, _, _, _, _, _, _, _, _, _, _, _, _, _, _, _, _, _, _, _, _, _, _, _, _, fx24, Or.inl ⟨rfl, rfl⟩, by omega, (hJ.keep hP.1 ty18 (fun x t hx hg => (hq_lgp hq13 hx hg (fun _ => rfl)).trans (hq_lgp hq5 hx hg (fun _ => rfl)))), fx25, fx26, by omega, by omega, fx27, ho18, by omega, by omega, by omega, by omega, by omega, by omega, by omega, by omega, by omega, (hVQ.keep hR (fun x t hx hg => (hq13.2 x t hx (by simp [hg])).trans (hq5.2 x t hx (by simp [hg])))), (by obtain ⟨fs9, h9⟩ := hst; exact ⟨fs9, ((hq13.2 (q + 19) _ (hr_19 hR) rfl).trans (hq5.2 (q + 19) _ (hr_19 hR) rfl)).trans h9⟩), (hE.keep (Or.inl rfl) (fun x hx => (hT2.fr hq13 (fun g hg => by first | rfl | (unfold hk_gr at hg; simp; omega)) x hx).trans (hT2.fr hq5 (fun g hg => by first | rfl | (unfold hk_gr at hg; simp; omega)) x hx)) ((hq13.2 _ _ ty1 rfl).trans (hq5.2 _ _ ty1 rfl)) ((hq13.2 _ _ ty2 rfl).trans (hq5.2 _ _ ty2 rfl)) ((hq13.2 _ _ (hr_20 hR) rfl).trans (hq5.2 _ _ (hr_20 hR) rfl))), (hCH.keep (fun x hx => (hT4.fr hq13 (fun g hg => by first | rfl | (simp; omega)) x hx).trans (hT4.fr hq5 (fun g hg => by first | rfl | (simp; omega)) x hx)))⟩
    exact kk _ _ _ ls hZ hinv9 (lv_sub hl [0, 1, 2, 3] rfl)
  · refine lv_aload_n hx hb dL_law_570 rfl (lv_at hl 2 rfl) ?_
    refine hp_calli (hp_runV (As := []) (rest := []) hx hb hml hown hts (t_X11_unused_1 l D cs B G  V9 n hP.1  (a) ty0 ho_a ty1 ty3 ty5 ty6 ty7 ty16 ty17 ty19 ty18 (by omega) hJ) hZ ho_a cv_L_66 rfl rfl ⟨Nat.le_of_ble_eq_true rfl, Nat.le_of_ble_eq_true rfl⟩ rfl hl.1 rfl (Nat.le_of_ble_eq_true rfl) dL_law_571 ⟨(Nat.le_of_ble_eq_true rfl), (Nat.le_of_ble_eq_true rfl)⟩) hZ (fun r4 V1 n2 _ _ hw3 hZ => ?_)
    obtain ⟨rfl, hq5, ho7, hr6⟩ := hw3
    have hP := hP.trans hq5 (fun _ h => Bool.noConfusion h)
    have b8 := hq_rng r4
    refine lv_pop hx hb dL_law_574 rfl ?_
    refine lv_aload_n hx hb dL_law_575 rfl (lv_at hl 1 rfl) ?_
    have fx15 : V1 (mo) = some (.inr (13, hm_o q (m_tp) (m_sz) (m_fr) (m_bh) (m_hd) (m_ft) (m_fa) (m_le) (m_fo) (m_as) (m_fd) (m_bc) (m_bg) (m_bs) (m_be) (m_b0) (m_b1) (m_cm) (m_hc))) := (hq5.2 (mo) _ ty20 rfl).trans (ho_m)
    refine hp_calli (hp_runV (As := []) (rest := []) hx hb hml hown hts (t_X13_unused l D cs B G  V1 n hP.1 q hR (mo) ty20 fx15  (by omega) (by omega) (by omega) (by omega) (by omega) (by omega) (by omega) (by omega) (hVQ.keep hR (fun x t hx hg => hq5.2 x t hx (by simp [hg])))) hZ fx15 cv_L_69 rfl rfl ⟨Nat.le_of_ble_eq_true rfl, Nat.le_of_ble_eq_true rfl⟩ rfl hl.1 rfl (Nat.le_of_ble_eq_true rfl) dL_law_576 ⟨(Nat.le_of_ble_eq_true rfl), (Nat.le_of_ble_eq_true rfl)⟩) hZ (fun r12 V9 n10 _ _ hw11 hZ => ?_)
    obtain ⟨rfl, hq13, ⟨z16, z17, ho18, hi19, hi20⟩, hr14⟩ := hw11
    have hP := hP.trans hq13 (fun _ h => Bool.noConfusion h)
    have b21 := hq_rng z17
    have b22 := hq_rng z16
    have b23 := hq_rng r12
    refine lv_pop hx hb dL_law_579 rfl ?_
    refine lv_goto (tgt := 761) hx hb dL_law_580 (by decide) ?_
    have fx24 : V9 (a) = some (.inr (11, [.ref (nb), .ref (nb + 2), .ref (nb + 5), .ref (nb + 46), .ref (nb + 50), .ref (nb + 62), .ref (nb + 87), .int (c_fs), .ref (nb + 465), .ref (nb + 88)])) := (hq13.2 (a) _ ty0 rfl).trans (ho7)
    have fx25 : V9 (nb + 2) = some (.inr (7, [.int (q_fk), .int (q_fp), q_tx, q_ou, .int (q_nx), .int (q_tk), .int (q_st), .ref (nb + 3)])) := (hq13.2 (nb + 2) _ ty3 rfl).trans ((hq5.2 (nb + 2) _ ty3 rfl).trans (ho_p))
    have fx26 : V9 (nb + 50) = some (.inr (1, [.ref (nb + 51), .ref (nb + 52), .int (e_fd), .ref (nb + 53), .ref (nb + 55), .ref (nb + 57), e_bk, e_an, e_mk, .int (e_sz), .ref (nb + 59), .ref (nb + 60), .ref (nb + 61)])) := (hq13.2 (nb + 50) _ ty7 rfl).trans ((hq5.2 (nb + 50) _ ty7 rfl).trans (ho_e))
    have fx27 : V9 (nb) = some (.inr (9, [.ref (nb + 1), .int (p_z)])) := (hq13.2 (nb) _ ty1 rfl).trans ((hq5.2 (nb) _ ty1 rfl).trans (ho_n))
    have hinv9 : hk_InvX cs G a nb mo q V9 := ⟨hP.1, _, _, _, _, _, _, _, _, _, _, _, _, _, _, _, _, _, _, _, _, _, _, _, _, _, _, _, _, _, _, _, _, _, _, _, fx24, Or.inr ⟨rfl, rfl⟩, by omega, (hJ.keep hP.1 ty19 (fun x t hx hg => (hq_lgp hq13 hx hg (fun _ => rfl)).trans (hq_lgp hq5 hx hg (fun _ => rfl)))), fx25, fx26, by omega, by omega, fx27, ho18, by omega, by omega, by omega, by omega, by omega, by omega, by omega, by omega, by omega, (hVQ.keep hR (fun x t hx hg => (hq13.2 x t hx (by simp [hg])).trans (hq5.2 x t hx (by simp [hg])))), (by obtain ⟨fs9, h9⟩ := hst; exact ⟨fs9, ((hq13.2 (q + 19) _ (hr_19 hR) rfl).trans (hq5.2 (q + 19) _ (hr_19 hR) rfl)).trans h9⟩), (hE.keep (Or.inr rfl) (fun x hx => (hT2.fr hq13 (fun g hg => by first | rfl | (unfold hk_gr at hg; simp; omega)) x hx).trans (hT2.fr hq5 (fun g hg => by first | rfl | (unfold hk_gr at hg; simp; omega)) x hx)) ((hq13.2 _ _ ty1 rfl).trans (hq5.2 _ _ ty1 rfl)) ((hq13.2 _ _ ty2 rfl).trans (hq5.2 _ _ ty2 rfl)) ((hq13.2 _ _ (hr_20 hR) rfl).trans (hq5.2 _ _ (hr_20 hR) rfl))), (hCH.keep (fun x hx => (hT4.fr hq13 (fun g hg => by first | rfl | (simp; omega)) x hx).trans (hT4.fr hq5 (fun g hg => by first | rfl | (simp; omega)) x hx)))⟩
    exact kk _ _ _ ls hZ hinv9 (lv_sub hl [0, 1, 2, 3] rfl)

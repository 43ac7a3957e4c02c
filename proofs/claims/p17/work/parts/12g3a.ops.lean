set_option maxHeartbeats 8000000 in
set_option maxRecDepth 100000 in
theorem hx_c_row {p : Program} {e : Env} {s : State} {m : MethodId} {below : List Frame} {meth : Method} {c : Code} (l : Launch) (D : va_G) (cs : Nat → ClassId) (B : Nat) (G : hq_G) {b L : Nat} {xs : Nat → Int32} (hx : p.tables.exec = Jvm.exec) (hb : c.code = code) (hml : c.maxLocals = 4) (hown : s.vm.findClass RL = some m.cls) (hts : ∀ w ∈ TBG, w.before #[Value.ref b] s = true) (hX : va_X b L xs s s.heap) (hbl : b < s.heap.size) (hbA : ¬ hp_F B b) (hL : L ≤ 3072) (a nb mo q n : Nat) (hT : hk_Ty G a nb mo q) (hT2 : hk_T2 G nb q) (hT3 : hk_T3 G nb) (hT4 : hk_T4 G nb q) (hak : a + 1 = nb) (hmo9 : mo = nb + 842) (hq9 : q = nb + 843) (i : Int32) (hi0 : 0 ≤ i.toInt) (hi1 : i.toInt + 6 ≤ L) (kk : ∀ (V9 : hp_V) (H9 : Heap) (locs9 : List Loc) (ls : Array Slot), hp_Z D cs B s V9 H9 n locs9 → hk_InvX cs G a nb mo q V9 → lv_has ls 4 [(3, .int i), (2, .ref mo), (1, .ref a), (0, .ref b)] → W p l e room_1 s m #[Value.ref b] below meth c H9 locs9 891 28710 (lw_Z below #[Value.ref b] s) (F0 m 761 ls [])) (V9 : hp_V) (H9 : Heap) (locs9 : List Loc) (ls : Array Slot) (hZ : hp_Z D cs B s V9 H9 n locs9) (hinv : hk_InvX cs G a nb mo q V9) (hl : lv_has ls 4 [(3, .int i), (2, .ref mo), (1, .ref a), (0, .ref b)]) : W p l e room_1 s m #[Value.ref b] below meth c H9 locs9 891 28710 (lw_Z below #[Value.ref b] s) (F0 m 418 ls []) := by
  obtain ⟨ty0, ty1, ty2, ty3, ty4, ty5, ty6, ty7, ty8, ty9, ty10, ty11, ty12, ty13, ty14, ty15, ty16, ty17, ty18, ty19, ty20, hR⟩ := id hT
  obtain ⟨hI, c_fs, q_fk, q_fp, q_nx, q_tk, q_st, e_fd, e_sz, p_z, m_tp, m_sz, m_fr, m_bh, m_hd, m_ft, m_fa, m_le, m_fo, m_as, m_fd, m_bc, m_bg, m_bs, m_be, m_b0, m_b1, m_cm, m_hc, c_to, c_sp, q_tx, q_ou, e_bk, e_an, e_mk, ho_a, htold, hfs, hJ, ho_p, ho_e, hef, hes, ho_n, ho_m, hiv0, hiv1, hiv2, hiv3, hiv4, hiv5, hiv6, hiv7, hzt, hVQ, hst, hE, hCH⟩ := hinv
  have hP : hq_P cs G (fun _ => true) V9 V9 := hq_P.rf hI
  have hb_c_fs := hq_rng c_fs
  have hb_q_fk := hq_rng q_fk
  have hb_q_fp := hq_rng q_fp
  have hb_q_nx := hq_rng q_nx
  have hb_q_tk := hq_rng q_tk
  have hb_q_st := hq_rng q_st
  have hb_e_fd := hq_rng e_fd
  have hb_e_sz := hq_rng e_sz
  have hb_p_z := hq_rng p_z
  have hb_m_tp := hq_rng m_tp
  have hb_m_sz := hq_rng m_sz
  have hb_m_fr := hq_rng m_fr
  have hb_m_bh := hq_rng m_bh
  have hb_m_hd := hq_rng m_hd
  have hb_m_ft := hq_rng m_ft
  have hb_m_fa := hq_rng m_fa
  have hb_m_le := hq_rng m_le
  have hb_m_fo := hq_rng m_fo
  have hb_m_as := hq_rng m_as
  have hb_m_fd := hq_rng m_fd
  have hb_m_bc := hq_rng m_bc
  have hb_m_bg := hq_rng m_bg
  have hb_m_bs := hq_rng m_bs
  have hb_m_be := hq_rng m_be
  have hb_m_b0 := hq_rng m_b0
  have hb_m_b1 := hq_rng m_b1
  have hb_m_cm := hq_rng m_cm
  have hb_m_hc := hq_rng m_hc
  have hb_i := hq_rng i
  rcases htold with ⟨rfl, rfl⟩ | ⟨rfl, rfl⟩
  · refine lv_aload_n hx hb dL_law_418 rfl (lv_at hl 2 rfl) ?_
    refine lv_aload_n hx hb dL_law_419 rfl (lv_at hl 3 rfl) ?_
    refine lv_iload_n hx hb dL_law_420 rfl (lv_at hl 0 rfl) ?_
    refine lv_iconst (v := 1) hx hb dL_law_421 (by decide) ?_
    refine lv_iadd hx hb dL_law_422 ?_
    refine va_sld hx hb hX hbl hbA hZ.2.1 (hk_ix hi0 hi1 hL (by decide) (by decide)) dL_law_423 ?_
    refine lv_topi (fun y1 ey2 => ?_)
    refine lv_aload_n hx hb dL_law_424 rfl (lv_at hl 3 rfl) ?_
    refine lv_iload_n hx hb dL_law_425 rfl (lv_at hl 0 rfl) ?_
    refine lv_iconst (v := 2) hx hb dL_law_426 (by decide) ?_
    refine lv_iadd hx hb dL_law_427 ?_
    refine va_sld hx hb hX hbl hbA hZ.2.1 (hk_ix hi0 hi1 hL (by decide) (by decide)) dL_law_428 ?_
    refine lv_topi (fun y3 ey4 => ?_)
    refine lv_aload_n hx hb dL_law_429 rfl (lv_at hl 3 rfl) ?_
    refine lv_iload_n hx hb dL_law_430 rfl (lv_at hl 0 rfl) ?_
    refine lv_iconst (v := 3) hx hb dL_law_431 (by decide) ?_
    refine lv_iadd hx hb dL_law_432 ?_
    refine va_sld hx hb hX hbl hbA hZ.2.1 (hk_ix hi0 hi1 hL (by decide) (by decide)) dL_law_433 ?_
    refine lv_topi (fun y5 ey6 => ?_)
    refine lv_aload_n hx hb dL_law_434 rfl (lv_at hl 3 rfl) ?_
    refine lv_iload_n hx hb dL_law_435 rfl (lv_at hl 0 rfl) ?_
    refine lv_iconst (v := 4) hx hb dL_law_436 (by decide) ?_
    refine lv_iadd hx hb dL_law_437 ?_
    refine va_sld hx hb hX hbl hbA hZ.2.1 (hk_ix hi0 hi1 hL (by decide) (by decide)) dL_law_438 ?_
    refine lv_topi (fun y7 ey8 => ?_)
    refine lv_aload_n hx hb dL_law_439 rfl (lv_at hl 3 rfl) ?_
    refine lv_iload_n hx hb dL_law_440 rfl (lv_at hl 0 rfl) ?_
    refine lv_iconst (v := 5) hx hb dL_law_441 (by decide) ?_
    refine lv_iadd hx hb dL_law_442 ?_
    refine va_sld hx hb hX hbl hbA hZ.2.1 (hk_ix hi0 hi1 hL (by decide) (by decide)) dL_law_443 ?_
    refine lv_topi (fun y9 ey10 => ?_)
    refine hp_calli (hp_runV (As := [.int (y1), .int (y3), .int (y5), .int (y7), .int (y9)]) (rest := []) hx hb hml hown hts (t_X11_row_0 l D cs B G  V9 n hP.1  (a) ty0 (y1) (y3) (y5) (y7) (y9) ho_a ty1 ty3 ty5 ty6 ty7 ty16 ty17 ty18 ty19 (by omega) hJ) hZ ho_a cv_L_50 rfl rfl ⟨Nat.le_of_ble_eq_true rfl, Nat.le_of_ble_eq_true rfl⟩ rfl hl.1 rfl (Nat.le_of_ble_eq_true rfl) dL_law_444 ⟨(Nat.le_of_ble_eq_true rfl), (Nat.le_of_ble_eq_true rfl)⟩) hZ (fun r14 V11 n12 _ _ hw13 hZ => ?_)
    obtain ⟨rfl, hq15, ho17, hr16⟩ := hw13
    have hP := hP.trans hq15 (fun _ h => Bool.noConfusion h)
    have b18 := hq_rng r14
    refine lv_pop hx hb dL_law_447 rfl ?_
    refine lv_aload_n hx hb dL_law_448 rfl (lv_at hl 1 rfl) ?_
    refine lv_aload_n hx hb dL_law_449 rfl (lv_at hl 3 rfl) ?_
    refine lv_iload_n hx hb dL_law_450 rfl (lv_at hl 0 rfl) ?_
    refine lv_iconst (v := 1) hx hb dL_law_451 (by decide) ?_
    refine lv_iadd hx hb dL_law_452 ?_
    refine va_sld hx hb hX hbl hbA hZ.2.1 (hk_ix hi0 hi1 hL (by decide) (by decide)) dL_law_453 ?_
    refine lv_topi (fun y19 ey20 => ?_)
    have b21 : y1 = y19 := by rw [ey20, ey2]
    subst b21
    refine lv_aload_n hx hb dL_law_454 rfl (lv_at hl 3 rfl) ?_
    refine lv_iload_n hx hb dL_law_455 rfl (lv_at hl 0 rfl) ?_
    refine lv_iconst (v := 2) hx hb dL_law_456 (by decide) ?_
    refine lv_iadd hx hb dL_law_457 ?_
    refine va_sld hx hb hX hbl hbA hZ.2.1 (hk_ix hi0 hi1 hL (by decide) (by decide)) dL_law_458 ?_
    refine lv_topi (fun y22 ey23 => ?_)
    have b24 : y3 = y22 := by rw [ey23, ey4]
    subst b24
    refine lv_aload_n hx hb dL_law_459 rfl (lv_at hl 3 rfl) ?_
    refine lv_iload_n hx hb dL_law_460 rfl (lv_at hl 0 rfl) ?_
    refine lv_iconst (v := 3) hx hb dL_law_461 (by decide) ?_
    refine lv_iadd hx hb dL_law_462 ?_
    refine va_sld hx hb hX hbl hbA hZ.2.1 (hk_ix hi0 hi1 hL (by decide) (by decide)) dL_law_463 ?_
    refine lv_topi (fun y25 ey26 => ?_)
    have b27 : y5 = y25 := by rw [ey26, ey6]
    subst b27
    refine lv_aload_n hx hb dL_law_464 rfl (lv_at hl 3 rfl) ?_
    refine lv_iload_n hx hb dL_law_465 rfl (lv_at hl 0 rfl) ?_
    refine lv_iconst (v := 4) hx hb dL_law_466 (by decide) ?_
    refine lv_iadd hx hb dL_law_467 ?_
    refine va_sld hx hb hX hbl hbA hZ.2.1 (hk_ix hi0 hi1 hL (by decide) (by decide)) dL_law_468 ?_
    refine lv_topi (fun y28 ey29 => ?_)
    have b30 : y7 = y28 := by rw [ey29, ey8]
    subst b30
    refine lv_aload_n hx hb dL_law_469 rfl (lv_at hl 3 rfl) ?_
    refine lv_iload_n hx hb dL_law_470 rfl (lv_at hl 0 rfl) ?_
    refine lv_iconst (v := 5) hx hb dL_law_471 (by decide) ?_
    refine lv_iadd hx hb dL_law_472 ?_
    refine va_sld hx hb hX hbl hbA hZ.2.1 (hk_ix hi0 hi1 hL (by decide) (by decide)) dL_law_473 ?_
    refine lv_topi (fun y31 ey32 => ?_)
    have b33 : y9 = y31 := by rw [ey32, ey10]
    subst b33
    have fx40 : V11 (mo) = some (.inr (13, hm_o q (m_tp) (m_sz) (m_fr) (m_bh) (m_hd) (m_ft) (m_fa) (m_le) (m_fo) (m_as) (m_fd) (m_bc) (m_bg) (m_bs) (m_be) (m_b0) (m_b1) (m_cm) (m_hc))) := (hq15.2 (mo) _ ty20 rfl).trans (ho_m)
    refine hp_calli (hp_runV (As := [.int (y1), .int (y3), .int (y5), .int (y7), .int (y9)]) (rest := []) hx hb hml hown hts (t_X13_row l D cs B G  V11 n hP.1 q hR (mo) ty20 (y1) (y3) (y5) (y7) (y9) fx40  (by omega) (by omega) (by omega) (by omega) (by omega) (by omega) (by omega) (by omega) (hVQ.keep hR (fun x t hx hg => hq15.2 x t hx (by simp [hg])))) hZ fx40 cv_L_53 rfl rfl ⟨Nat.le_of_ble_eq_true rfl, Nat.le_of_ble_eq_true rfl⟩ rfl hl.1 rfl (Nat.le_of_ble_eq_true rfl) dL_law_474 ⟨(Nat.le_of_ble_eq_true rfl), (Nat.le_of_ble_eq_true rfl)⟩) hZ (fun r37 V34 n35 _ _ hw36 hZ => ?_)
    obtain ⟨rfl, hq38, ⟨z41, z42, ho43, hi44, hi45⟩, hr39⟩ := hw36
    have hP := hP.trans hq38 (fun _ h => Bool.noConfusion h)
    have b46 := hq_rng z42
    have b47 := hq_rng z41
    have b48 := hq_rng r37
    refine lv_pop hx hb dL_law_477 rfl ?_
    refine lv_goto (tgt := 761) hx hb dL_law_478 (by decide) ?_
    have fx49 : V34 (a) = some (.inr (11, [.ref (nb), .ref (nb + 2), .ref (nb + 5), .ref (nb + 46), .ref (nb + 50), .ref (nb + 62), .ref (nb + 87), .int (c_fs), .ref (nb + 88), .ref (nb + 465)])) := (hq38.2 (a) _ ty0 rfl).trans (ho17)
    have fx50 : V34 (nb + 2) = some (.inr (7, [.int (q_fk), .int (q_fp), q_tx, q_ou, .int (q_nx), .int (q_tk), .int (q_st), .ref (nb + 3)])) := (hq38.2 (nb + 2) _ ty3 rfl).trans ((hq15.2 (nb + 2) _ ty3 rfl).trans (ho_p))
    have fx51 : V34 (nb + 50) = some (.inr (1, [.ref (nb + 51), .ref (nb + 52), .int (e_fd), .ref (nb + 53), .ref (nb + 55), .ref (nb + 57), e_bk, e_an, e_mk, .int (e_sz), .ref (nb + 59), .ref (nb + 60), .ref (nb + 61)])) := (hq38.2 (nb + 50) _ ty7 rfl).trans ((hq15.2 (nb + 50) _ ty7 rfl).trans (ho_e))
    have fx52 : V34 (nb) = some (.inr (9, [.ref (nb + 1), .int (p_z)])) := (hq38.2 (nb) _ ty1 rfl).trans ((hq15.2 (nb) _ ty1 rfl).trans (ho_n))
    have hinv9 : hk_InvX cs G a nb mo q V34 := ⟨hP.1, _, _, _, _, _, _, _, _, _, _, _, _, _, _, _, _, _, _, _, _, _, _, _, _, _, _, _, _, _, _, _, _, _, _, _, fx49, Or.inl ⟨rfl, rfl⟩, by omega, (hJ.keep hP.1 ty18 (fun x t hx hg => (hq_lgp hq38 hx hg (fun _ => rfl)).trans (hq_lgp hq15 hx hg (fun _ => rfl)))), fx50, fx51, by omega, by omega, fx52, ho43, by omega, by omega, by omega, by omega, by omega, by omega, by omega, by omega, by omega, (hVQ.keep hR (fun x t hx hg => (hq38.2 x t hx (by simp [hg])).trans (hq15.2 x t hx (by simp [hg])))), (by obtain ⟨fs9, h9⟩ := hst; exact ⟨fs9, ((hq38.2 (q + 19) _ (hr_19 hR) rfl).trans (hq15.2 (q + 19) _ (hr_19 hR) rfl)).trans h9⟩), (hE.keep (Or.inl rfl) (fun x hx => (hT2.fr hq38 (fun g hg => by first | rfl | (unfold hk_gr at hg; simp; omega)) x hx).trans (hT2.fr hq15 (fun g hg => by first | rfl | (unfold hk_gr at hg; simp; omega)) x hx)) ((hq38.2 _ _ ty1 rfl).trans (hq15.2 _ _ ty1 rfl)) ((hq38.2 _ _ ty2 rfl).trans (hq15.2 _ _ ty2 rfl)) ((hq38.2 _ _ (hr_20 hR) rfl).trans (hq15.2 _ _ (hr_20 hR) rfl))), (hCH.keep (fun x hx => (hT4.fr hq38 (fun g hg => by first | rfl | (simp; omega)) x hx).trans (hT4.fr hq15 (fun g hg => by first | rfl | (simp; omega)) x hx)))⟩
    exact kk _ _ _ ls hZ hinv9 (lv_sub hl [0, 1, 2, 3] rfl)
  · refine lv_aload_n hx hb dL_law_418 rfl (lv_at hl 2 rfl) ?_
    refine lv_aload_n hx hb dL_law_419 rfl (lv_at hl 3 rfl) ?_
    refine lv_iload_n hx hb dL_law_420 rfl (lv_at hl 0 rfl) ?_
    refine lv_iconst (v := 1) hx hb dL_law_421 (by decide) ?_
    refine lv_iadd hx hb dL_law_422 ?_
    refine va_sld hx hb hX hbl hbA hZ.2.1 (hk_ix hi0 hi1 hL (by decide) (by decide)) dL_law_423 ?_
    refine lv_topi (fun y1 ey2 => ?_)
    refine lv_aload_n hx hb dL_law_424 rfl (lv_at hl 3 rfl) ?_
    refine lv_iload_n hx hb dL_law_425 rfl (lv_at hl 0 rfl) ?_
    refine lv_iconst (v := 2) hx hb dL_law_426 (by decide) ?_
    refine lv_iadd hx hb dL_law_427 ?_
    refine va_sld hx hb hX hbl hbA hZ.2.1 (hk_ix hi0 hi1 hL (by decide) (by decide)) dL_law_428 ?_
    refine lv_topi (fun y3 ey4 => ?_)
    refine lv_aload_n hx hb dL_law_429 rfl (lv_at hl 3 rfl) ?_
    refine lv_iload_n hx hb dL_law_430 rfl (lv_at hl 0 rfl) ?_
    refine lv_iconst (v := 3) hx hb dL_law_431 (by decide) ?_
    refine lv_iadd hx hb dL_law_432 ?_
    refine va_sld hx hb hX hbl hbA hZ.2.1 (hk_ix hi0 hi1 hL (by decide) (by decide)) dL_law_433 ?_
    refine lv_topi (fun y5 ey6 => ?_)
    refine lv_aload_n hx hb dL_law_434 rfl (lv_at hl 3 rfl) ?_
    refine lv_iload_n hx hb dL_law_435 rfl (lv_at hl 0 rfl) ?_
    refine lv_iconst (v := 4) hx hb dL_law_436 (by decide) ?_
    refine lv_iadd hx hb dL_law_437 ?_
    refine va_sld hx hb hX hbl hbA hZ.2.1 (hk_ix hi0 hi1 hL (by decide) (by decide)) dL_law_438 ?_
    refine lv_topi (fun y7 ey8 => ?_)
    refine lv_aload_n hx hb dL_law_439 rfl (lv_at hl 3 rfl) ?_
    refine lv_iload_n hx hb dL_law_440 rfl (lv_at hl 0 rfl) ?_
    refine lv_iconst (v := 5) hx hb dL_law_441 (by decide) ?_
    refine lv_iadd hx hb dL_law_442 ?_
    refine va_sld hx hb hX hbl hbA hZ.2.1 (hk_ix hi0 hi1 hL (by decide) (by decide)) dL_law_443 ?_
    refine lv_topi (fun y9 ey10 => ?_)
    refine hp_calli (hp_runV (As := [.int (y1), .int (y3), .int (y5), .int (y7), .int (y9)]) (rest := []) hx hb hml hown hts (t_X11_row_1 l D cs B G  V9 n hP.1  (a) ty0 (y1) (y3) (y5) (y7) (y9) ho_a ty1 ty3 ty5 ty6 ty7 ty16 ty17 ty19 ty18 (by omega) hJ) hZ ho_a cv_L_50 rfl rfl ⟨Nat.le_of_ble_eq_true rfl, Nat.le_of_ble_eq_true rfl⟩ rfl hl.1 rfl (Nat.le_of_ble_eq_true rfl) dL_law_444 ⟨(Nat.le_of_ble_eq_true rfl), (Nat.le_of_ble_eq_true rfl)⟩) hZ (fun r14 V11 n12 _ _ hw13 hZ => ?_)
    obtain ⟨rfl, hq15, ho17, hr16⟩ := hw13
    have hP := hP.trans hq15 (fun _ h => Bool.noConfusion h)
    have b18 := hq_rng r14
    refine lv_pop hx hb dL_law_447 rfl ?_
    refine lv_aload_n hx hb dL_law_448 rfl (lv_at hl 1 rfl) ?_
    refine lv_aload_n hx hb dL_law_449 rfl (lv_at hl 3 rfl) ?_
    refine lv_iload_n hx hb dL_law_450 rfl (lv_at hl 0 rfl) ?_
    refine lv_iconst (v := 1) hx hb dL_law_451 (by decide) ?_
    refine lv_iadd hx hb dL_law_452 ?_
    refine va_sld hx hb hX hbl hbA hZ.2.1 (hk_ix hi0 hi1 hL (by decide) (by decide)) dL_law_453 ?_
    refine lv_topi (fun y19 ey20 => ?_)
    have b21 : y1 = y19 := by rw [ey20, ey2]
    subst b21
    refine lv_aload_n hx hb dL_law_454 rfl (lv_at hl 3 rfl) ?_
    refine lv_iload_n hx hb dL_law_455 rfl (lv_at hl 0 rfl) ?_
    refine lv_iconst (v := 2) hx hb dL_law_456 (by decide) ?_
    refine lv_iadd hx hb dL_law_457 ?_
    refine va_sld hx hb hX hbl hbA hZ.2.1 (hk_ix hi0 hi1 hL (by decide) (by decide)) dL_law_458 ?_
    refine lv_topi (fun y22 ey23 => ?_)
    have b24 : y3 = y22 := by rw [ey23, ey4]
    subst b24
    refine lv_aload_n hx hb dL_law_459 rfl (lv_at hl 3 rfl) ?_
    refine lv_iload_n hx hb dL_law_460 rfl (lv_at hl 0 rfl) ?_
    refine lv_iconst (v := 3) hx hb dL_law_461 (by decide) ?_
    refine lv_iadd hx hb dL_law_462 ?_
    refine va_sld hx hb hX hbl hbA hZ.2.1 (hk_ix hi0 hi1 hL (by decide) (by decide)) dL_law_463 ?_
    refine lv_topi (fun y25 ey26 => ?_)
    have b27 : y5 = y25 := by rw [ey26, ey6]
    subst b27
    refine lv_aload_n hx hb dL_law_464 rfl (lv_at hl 3 rfl) ?_
    refine lv_iload_n hx hb dL_law_465 rfl (lv_at hl 0 rfl) ?_
    refine lv_iconst (v := 4) hx hb dL_law_466 (by decide) ?_
    refine lv_iadd hx hb dL_law_467 ?_
    refine va_sld hx hb hX hbl hbA hZ.2.1 (hk_ix hi0 hi1 hL (by decide) (by decide)) dL_law_468 ?_
    refine lv_topi (fun y28 ey29 => ?_)
    have b30 : y7 = y28 := by rw [ey29, ey8]
    subst b30
    refine lv_aload_n hx hb dL_law_469 rfl (lv_at hl 3 rfl) ?_
    refine lv_iload_n hx hb dL_law_470 rfl (lv_at hl 0 rfl) ?_
    refine lv_iconst (v := 5) hx hb dL_law_471 (by decide) ?_
    refine lv_iadd hx hb dL_law_472 ?_
    refine va_sld hx hb hX hbl hbA hZ.2.1 (hk_ix hi0 hi1 hL (by decide) (by decide)) dL_law_473 ?_
    refine lv_topi (fun y31 ey32 => ?_)
    have b33 : y9 = y31 := by rw [ey32, ey10]
    subst b33
    have fx40 : V11 (mo) = some (.inr (13, hm_o q (m_tp) (m_sz) (m_fr) (m_bh) (m_hd) (m_ft) (m_fa) (m_le) (m_fo) (m_as) (m_fd) (m_bc) (m_bg) (m_bs) (m_be) (m_b0) (m_b1) (m_cm) (m_hc))) := (hq15.2 (mo) _ ty20 rfl).trans (ho_m)
    refine hp_calli (hp_runV (As := [.int (y1), .int (y3), .int (y5), .int (y7), .int (y9)]) (rest := []) hx hb hml hown hts (t_X13_row l D cs B G  V11 n hP.1 q hR (mo) ty20 (y1) (y3) (y5) (y7) (y9) fx40  (by omega) (by omega) (by omega) (by omega) (by omega) (by omega) (by omega) (by omega) (hVQ.keep hR (fun x t hx hg => hq15.2 x t hx (by simp [hg])))) hZ fx40 cv_L_53 rfl rfl ⟨Nat.le_of_ble_eq_true rfl, Nat.le_of_ble_eq_true rfl⟩ rfl hl.1 rfl (Nat.le_of_ble_eq_true rfl) dL_law_474 ⟨(Nat.le_of_ble_eq_true rfl), (Nat.le_of_ble_eq_true rfl)⟩) hZ (fun r37 V34 n35 _ _ hw36 hZ => ?_)
    obtain ⟨rfl, hq38, ⟨z41, z42, ho43, hi44, hi45⟩, hr39⟩ := hw36
    have hP := hP.trans hq38 (fun _ h => Bool.noConfusion h)
    have b46 := hq_rng z42
    have b47 := hq_rng z41
    have b48 := hq_rng r37
    refine lv_pop hx hb dL_law_477 rfl ?_
    refine lv_goto (tgt := 761) hx hb dL_law_478 (by decide) ?_
    have fx49 : V34 (a) = some (.inr (11, [.ref (nb), .ref (nb + 2), .ref (nb + 5), .ref (nb + 46), .ref (nb + 50), .ref (nb + 62), .ref (nb + 87), .int (c_fs), .ref (nb + 465), .ref (nb + 88)])) := (hq38.2 (a) _ ty0 rfl).trans (ho17)
    have fx50 : V34 (nb + 2) = some (.inr (7, [.int (q_fk), .int (q_fp), q_tx, q_ou, .int (q_nx), .int (q_tk), .int (q_st), .ref (nb + 3)])) := (hq38.2 (nb + 2) _ ty3 rfl).trans ((hq15.2 (nb + 2) _ ty3 rfl).trans (ho_p))
    have fx51 : V34 (nb + 50) = some (.inr (1, [.ref (nb + 51), .ref (nb + 52), .int (e_fd), .ref (nb + 53), .ref (nb + 55), .ref (nb + 57), e_bk, e_an, e_mk, .int (e_sz), .ref (nb + 59), .ref (nb + 60), .ref (nb + 61)])) := (hq38.2 (nb + 50) _ ty7 rfl).trans ((hq15.2 (nb + 50) _ ty7 rfl).trans (ho_e))
    have fx52 : V34 (nb) = some (.inr (9, [.ref (nb + 1), .int (p_z)])) := (hq38.2 (nb) _ ty1 rfl).trans ((hq15.2 (nb) _ ty1 rfl).trans (ho_n))
    have hinv9 : hk_InvX cs G a nb mo q V34 := ⟨hP.1, _, _, _, _, _, _, _, _, _, _, _, _, _, _, _, _, _, _, _, _, _, _, _, _, _, _, _, _, _, _, _, _, _, _, _, fx49, Or.inr ⟨rfl, rfl⟩, by omega, (hJ.keep hP.1 ty19 (fun x t hx hg => (hq_lgp hq38 hx hg (fun _ => rfl)).trans (hq_lgp hq15 hx hg (fun _ => rfl)))), fx50, fx51, by omega, by omega, fx52, ho43, by omega, by omega, by omega, by omega, by omega, by omega, by omega, by omega, by omega, (hVQ.keep hR (fun x t hx hg => (hq38.2 x t hx (by simp [hg])).trans (hq15.2 x t hx (by simp [hg])))), (by obtain ⟨fs9, h9⟩ := hst; exact ⟨fs9, ((hq38.2 (q + 19) _ (hr_19 hR) rfl).trans (hq15.2 (q + 19) _ (hr_19 hR) rfl)).trans h9⟩), (hE.keep (Or.inr rfl) (fun x hx => (hT2.fr hq38 (fun g hg => by first | rfl | (unfold hk_gr at hg; simp; omega)) x hx).trans (hT2.fr hq15 (fun g hg => by first | rfl | (unfold hk_gr at hg; simp; omega)) x hx)) ((hq38.2 _ _ ty1 rfl).trans (hq15.2 _ _ ty1 rfl)) ((hq38.2 _ _ ty2 rfl).trans (hq15.2 _ _ ty2 rfl)) ((hq38.2 _ _ (hr_20 hR) rfl).trans (hq15.2 _ _ (hr_20 hR) rfl))), (hCH.keep (fun x hx => (hT4.fr hq38 (fun g hg => by first | rfl | (simp; omega)) x hx).trans (hT4.fr hq15 (fun g hg => by first | rfl | (simp; omega)) x hx)))⟩
    exact kk _ _ _ ls hZ hinv9 (lv_sub hl [0, 1, 2, 3] rfl)

set_option maxHeartbeats 8000000 in
set_option maxRecDepth 100000 in
theorem hx_c_book {p : Program} {e : Env} {s : State} {m : MethodId} {below : List Frame} {meth : Method} {c : Code} (l : Launch) (D : va_G) (cs : Nat → ClassId) (B : Nat) (G : hq_G) {b L : Nat} {xs : Nat → Int32} (hx : p.tables.exec = Jvm.exec) (hb : c.code = code) (hml : c.maxLocals = 4) (hown : s.vm.findClass RL = some m.cls) (hts : ∀ w ∈ TBG, w.before #[Value.ref b] s = true) (hX : va_X b L xs s s.heap) (hbl : b < s.heap.size) (hbA : ¬ hp_F B b) (hL : L ≤ 3072) (a nb mo q n : Nat) (hT : hk_Ty G a nb mo q) (hT2 : hk_T2 G nb q) (hT3 : hk_T3 G nb) (hT4 : hk_T4 G nb q) (hak : a + 1 = nb) (hmo9 : mo = nb + 842) (hq9 : q = nb + 843) (i : Int32) (hi0 : 0 ≤ i.toInt) (hi1 : i.toInt + 6 ≤ L) (kk : ∀ (V9 : hp_V) (H9 : Heap) (locs9 : List Loc) (ls : Array Slot), hp_Z D cs B s V9 H9 n locs9 → hk_InvX cs G a nb mo q V9 → lv_has ls 4 [(3, .int i), (2, .ref mo), (1, .ref a), (0, .ref b)] → W p l e room_1 s m #[Value.ref b] below meth c H9 locs9 891 28710 (lw_Z below #[Value.ref b] s) (F0 m 761 ls [])) (V9 : hp_V) (H9 : Heap) (locs9 : List Loc) (ls : Array Slot) (hZ : hp_Z D cs B s V9 H9 n locs9) (hinv : hk_InvX cs G a nb mo q V9) (hl : lv_has ls 4 [(3, .int i), (2, .ref mo), (1, .ref a), (0, .ref b)]) : W p l e room_1 s m #[Value.ref b] below meth c H9 locs9 891 28710 (lw_Z below #[Value.ref b] s) (F0 m 210 ls []) := by
  obtain ⟨ty0, ty1, ty2, ty3, ty4, ty5, ty6, ty7, ty8, ty9, ty10, ty11, ty12, ty13, ty14, ty15, ty16, ty17, ty18, ty19, ty20, hR⟩ := id hT
  obtain ⟨hI, c_fs, q_fk, q_fp, q_nx, q_tk, q_st, e_fd, e_sz, p_z, m_tp, m_sz, m_fr, m_bh, m_hd, m_ft, m_fa, m_le, m_fo, m_as, m_fd, m_bc, m_bg, m_bs, m_be, m_b0, m_b1, m_cm, m_hc, c_to, c_sp, q_tx, q_ou, e_bk, e_an, e_mk, ho_a, htold, hfs, hJ, ho_p, ho_e, hef, hes, ho_n, ho_m, hiv0, hiv1, hiv2, hiv3, hiv4, hiv5, hiv6, hiv7, hzt, hVQ, hst, hE, hCH⟩ := hinv
  have hP : hq_P cs G (fun _ => true) V9 V9 := hq_P.rf hI
  have hb_c_fs := hq_rng c_fs
  have hb_q_fk := hq_rng q_fk
  have hb_q_fp := hq_rng q_fp
  have hb_q_nx := hq_rng q_nx
  have hb_q_tk := hq_rng q_tk
  have hb_q_st := hq_rng q_st
  have hb_e_fd := hq_rng e_fd
  have hb_e_sz := hq_rng e_sz
  have hb_p_z := hq_rng p_z
  have hb_m_tp := hq_rng m_tp
  have hb_m_sz := hq_rng m_sz
  have hb_m_fr := hq_rng m_fr
  have hb_m_bh := hq_rng m_bh
  have hb_m_hd := hq_rng m_hd
  have hb_m_ft := hq_rng m_ft
  have hb_m_fa := hq_rng m_fa
  have hb_m_le := hq_rng m_le
  have hb_m_fo := hq_rng m_fo
  have hb_m_as := hq_rng m_as
  have hb_m_fd := hq_rng m_fd
  have hb_m_bc := hq_rng m_bc
  have hb_m_bg := hq_rng m_bg
  have hb_m_bs := hq_rng m_bs
  have hb_m_be := hq_rng m_be
  have hb_m_b0 := hq_rng m_b0
  have hb_m_b1 := hq_rng m_b1
  have hb_m_cm := hq_rng m_cm
  have hb_m_hc := hq_rng m_hc
  have hb_i := hq_rng i
  rcases htold with ⟨rfl, rfl⟩ | ⟨rfl, rfl⟩
  · obtain ⟨hE0, ⟨w, hTx, hTm, hoc⟩, ⟨wb, bk, rh, hAR0, hBm, ⟨hgood, hgood2, hocb⟩, hBx⟩, hS0, hS1, hTS⟩ := id hE
    obtain ⟨hz1, hz2, tg0, htg0, hz3⟩ := hx_TP.opn hTx ho_n
    obtain ⟨tg1, htg1, hok, hz4⟩ := id hTm
    obtain ⟨hm1, hm2, hm3, -⟩ := id hBm
    refine lv_aload_n hx hb dL_law_210 rfl (lv_at hl 2 rfl) ?_
    refine hp_calli (hp_runV (As := []) (rest := []) hx hb hml hown hts (x_book_0 l D cs B G V9 n hP.1 (a) (nb) (nb + 88) (nb + 465) (mo) (q) (w) (c_fs) (q_tx) (q_ou) (q_fk) (q_fp) (q_nx) (q_tk) (q_st) (e_fd) (e_sz) (e_bk) (e_an) (e_mk)  ho_a ho_p ho_e hTx hS1.2.1 hS1.1 hT hT2 hak ⟨rfl, rfl⟩ hS1.2.2 hTS (by omega) (by omega) (by omega)) hZ ho_a cv_L_23 rfl rfl ⟨Nat.le_of_ble_eq_true rfl, Nat.le_of_ble_eq_true rfl⟩ rfl hl.1 rfl (Nat.le_of_ble_eq_true rfl) dL_law_211 ⟨(Nat.le_of_ble_eq_true rfl), (Nat.le_of_ble_eq_true rfl)⟩) hZ (fun r4 V1 n2 _ _ hw3 hZ => ?_)
    obtain ⟨rfl, hq5, fr6, z7, z8, z9, z10, z11, z12, z13, u14, u15, ho16, ho17, ho18, ho19, hp20, hp21, hp22, hp23, hp24⟩ := hw3
    have b25 := hq_rng z7
    have b26 := hq_rng z8
    have b27 := hq_rng z9
    have b28 := hq_rng z10
    have b29 := hq_rng z11
    have b30 := hq_rng z12
    have b31 := hq_rng z13
    have hP := hP.trans hq5 (fun _ h => Bool.noConfusion h)
    have b32 := hq_rng r4
    refine lv_pop hx hb dL_law_214 rfl ?_
    refine lv_aload_n hx hb dL_law_215 rfl (lv_at hl 1 rfl) ?_
    have hst9 : ∃ fs, V1 (q + 19) = some (.inr (12, fs)) := by obtain ⟨fs9, h9⟩ := hst; exact ⟨fs9, (fr6 (q + 19) (hq_tne (hr_19 hR) ty0 (by simp)) (hq_tne (hr_19 hR) ty1 (by simp)) (hq_tne (hr_19 hR) ty3 (by simp)) (hq_tne (hr_19 hR) ty4 (by simp)) (hq_tne (hr_19 hR) hT2.1 (by simp)) (by omega) ⟨_, (hr_19 hR), by decide, by decide, by decide⟩).trans h9⟩
    have fx33 : V1 (mo) = some (.inr (13, hm_o q (m_tp) (m_sz) (m_fr) (m_bh) (m_hd) (m_ft) (m_fa) (m_le) (m_fo) (m_as) (m_fd) (m_bc) (m_bg) (m_bs) (m_be) (m_b0) (m_b1) (m_cm) (m_hc))) := (fr6 (mo) (hq_tne ty20 ty0 (by simp)) (hq_tne ty20 ty1 (by simp)) (hq_tne ty20 ty3 (by simp)) (hq_tne ty20 ty4 (by simp)) (hq_tne ty20 hT2.1 (by simp)) (by omega) ⟨_, ty20, by decide, by decide, by decide⟩).trans (ho_m)
    have pk34 := hTm.keep (fr6 (q + 20) (hq_tne (hr_20 hR) ty0 (by simp)) (hq_tne (hr_20 hR) ty1 (by simp)) (hq_tne (hr_20 hR) ty3 (by simp)) (hq_tne (hr_20 hR) ty4 (by simp)) (hq_tne (hr_20 hR) hT2.1 (by simp)) (by omega) ⟨_, (hr_20 hR), by decide, by decide, by decide⟩)
    have pk35 := hAR0.keep (fun x7 (hx7 : q ≤ x7 ∧ x7 < q + 19) => fr6 x7 (by omega) (by omega) (by omega) (by omega) (by omega) (by omega) (by obtain ⟨t9, h91, h92⟩ := hT2.2.2.2 x7 (by unfold hk_In; omega); unfold hk_gr at h92; exact ⟨t9, h91, by omega, by omega, by omega⟩))
    refine hp_calli (hp_runVW (As := []) (rest := []) hx hb hml hown hts (y_book l D cs B G V1 n hP.1 (q) (mo) (w) (nb) (rh) (m_tp) (m_sz) (m_fr) (m_bh) (m_hd) (m_ft) (m_fa) (m_le) (m_fo) (m_as) (m_fd) (m_bc) (m_bg) (m_bs) (m_be) (m_b0) (m_b1) (m_cm) (m_hc)  fx33 pk34 pk35 hR ty20 (by omega) hT2 (by omega) hoc (by omega) (by omega) (by omega) (by omega) (by omega) (by omega) (by omega) (by omega) hst9) hZ fx33 cv_L_27 rfl rfl ⟨Nat.le_of_ble_eq_true rfl, Nat.le_of_ble_eq_true rfl⟩ rfl hl.1 rfl (Nat.le_of_ble_eq_true rfl) dL_law_216 ⟨(Nat.le_of_ble_eq_true rfl), (Nat.le_of_ble_eq_true rfl)⟩) hZ (fun r39 V36 n37 _ _ hw38 hZ => ?_)
    obtain ⟨rfl, hq40, fr41, z42, z43, z44, z45, z46, z47, z48, u49, ho50, hp51, hp52, hp53, hp54⟩ := hw38
    have b55 := hq_rng z42
    have b56 := hq_rng z43
    have b57 := hq_rng z44
    have b58 := hq_rng z45
    have b59 := hq_rng z46
    have b60 := hq_rng z47
    have b61 := hq_rng z48
    have hP := hP.trans hq40 (fun _ h => Bool.noConfusion h)
    have b62 := hq_rng r39
    refine lv_pop hx hb dL_law_219 rfl ?_
    refine lv_goto (tgt := 761) hx hb dL_law_220 (by decide) ?_
    have hk2 : ∀ x, (nb ≤ x ∧ x < nb + 842) → hk_In nb q x → V36 x = V1 x := fun x hx hi => fr41 x (by omega) (by omega) (by obtain ⟨t9, h91, h92⟩ := hT2.2.2.2 x hi; unfold hk_gr at h92; exact ⟨t9, h91, by omega⟩)
    have hk1 : ∀ x, (nb + 88 ≤ x ∧ x < nb + 465) → V36 x = V9 x := fun x hx => (hk2 x (by omega) (by unfold hk_In; omega)).trans (fr6 x (by omega) (by omega) (by omega) (by omega) (by omega) (by omega) (by obtain ⟨t9, h91, h92⟩ := hT2.2.2.2 x (by unfold hk_In; omega); unfold hk_gr at h92; exact ⟨t9, h91, by omega, by omega, by omega⟩))
    have fx63 : V36 (nb) = some (.inr (9, [.ref (nb + 1), .int (0)])) := (fr41 (nb) (hq_tne ty1 ty20 (by simp)) (by omega) ⟨_, ty1, by decide⟩).trans (ho17)
    have hSt : hx_SH cs V36 (nb + 88) := hS0.keep hk1
    have hSs : hx_SH cs V36 (nb + 465) := hx_SH.keep hp23 (fun x hx => hk2 x (by omega) (by unfold hk_In; omega))
    have hTS2 : hx_TS cs V36 (nb + 3) 12 := hx_TS.keep hp24 (hk2 _ (by omega) (by unfold hk_In; omega)) (hk2 _ (by omega) (by unfold hk_In; omega))
    have hk7 : V36 (nb + 7) = V9 (nb + 7) := (fr41 (nb + 7) (hq_tne hT3.2.1 ty20 (by simp)) (by omega) ⟨_, hT3.2.1, by decide⟩).trans (fr6 (nb + 7) (hq_tne hT3.2.1 ty0 (by simp)) (hq_tne hT3.2.1 ty1 (by simp)) (hq_tne hT3.2.1 ty3 (by simp)) (hq_tne hT3.2.1 ty4 (by simp)) (hq_tne hT3.2.1 hT2.1 (by simp)) (by omega) ⟨_, hT3.2.1, by decide, by decide, by decide⟩)
    have hk44 : V36 (q + 44) = V9 (q + 44) := (fr41 (q + 44) (hq_tne (hr_44 hR) ty20 (by simp)) (by omega) ⟨_, (hr_44 hR), by decide⟩).trans (fr6 (q + 44) (hq_tne (hr_44 hR) ty0 (by simp)) (hq_tne (hr_44 hR) ty1 (by simp)) (hq_tne (hr_44 hR) ty3 (by simp)) (hq_tne (hr_44 hR) ty4 (by simp)) (hq_tne (hr_44 hR) hT2.1 (by simp)) (by omega) ⟨_, (hr_44 hR), by decide, by decide, by decide⟩)
    have hk45 : V36 (q + 45) = V9 (q + 45) := (fr41 (q + 45) (hq_tne (hr_45 hR) ty20 (by simp)) (by omega) ⟨_, (hr_45 hR), by decide⟩).trans (fr6 (q + 45) (hq_tne (hr_45 hR) ty0 (by simp)) (hq_tne (hr_45 hR) ty1 (by simp)) (hq_tne (hr_45 hR) ty3 (by simp)) (hq_tne (hr_45 hR) ty4 (by simp)) (hq_tne (hr_45 hR) hT2.1 (by simp)) (by omega) ⟨_, (hr_45 hR), by decide, by decide, by decide⟩)
    have hk46 : V36 (q + 46) = V9 (q + 46) := (fr41 (q + 46) (hq_tne (hr_46 hR) ty20 (by simp)) (by omega) ⟨_, (hr_46 hR), by decide⟩).trans (fr6 (q + 46) (hq_tne (hr_46 hR) ty0 (by simp)) (hq_tne (hr_46 hR) ty1 (by simp)) (hq_tne (hr_46 hR) ty3 (by simp)) (hq_tne (hr_46 hR) ty4 (by simp)) (hq_tne (hr_46 hR) hT2.1 (by simp)) (by omega) ⟨_, (hr_46 hR), by decide, by decide, by decide⟩)
    have hk59 : V36 (nb + 59) = V1 (nb + 59) := fr41 (nb + 59) (hq_tne ty13 ty20 (by simp)) (by omega) ⟨_, ty13, by decide⟩
    have hk60 : V36 (nb + 60) = V1 (nb + 60) := fr41 (nb + 60) (hq_tne ty14 ty20 (by simp)) (by omega) ⟨_, ty14, by decide⟩
    have hk61 : V36 (nb + 61) = V1 (nb + 61) := fr41 (nb + 61) (hq_tne ty15 ty20 (by simp)) (by omega) ⟨_, ty15, by decide⟩
    have hBK : (((u14 = nb + 88 ∧ u15 = nb + 465) ∨ (u14 = nb + 465 ∧ u15 = nb + 88)) ∧ hk_E cs nb q V36 u14 z7 z8 z45 z46 ∧ hq_J cs V36 u14 ∧ hm_VQ cs V36 q 0 0) ∧ r4.toInt = r39.toInt ∧ hk_CH cs nb q V36 z13 z48 m_cm := by
      rcases hp20 with ⟨g1, g2, g3, g4, g5, g6, g61, g62, g63, g64⟩ | ⟨g1, g2, g3, g4, g5, g6, g7, g8, g81⟩
      · rcases hp51 with ⟨k1, k2, k3, k4, k5⟩ | ⟨k1, k2, -⟩
        · have hb2 := hBx.keep hk1
          have hm9 := hBm.held k5.1
          exact ⟨⟨Or.inl ⟨g5, g6⟩, by rw [g5]; exact hk_E.mk ⟨by omega, by omega⟩ hP.1 ty2 (hr_20 hR) fx63 (by decide) hoc hp52 hm9 ⟨hgood, hgood2, hocb⟩ hb2 hSt hSs hTS2, by rw [g5]; exact hq_J.of hb2 hSt.2.1 hgood, hm_VQ.of hp52 hm9 hgood⟩, by omega, by rw [g61, k5.2]; exact hCH.keep (fun x hx => by rcases hx with rfl | rfl | rfl | rfl | rfl | rfl | rfl; exact hk7; exact hk59.trans g62; exact hk60.trans g63; exact hk61.trans g64; exact hk44; exact hk45; exact hk46)⟩
        · exact absurd k2 g2
      · rcases hp51 with ⟨k1, k2, k3, k4, k5⟩ | ⟨k1, k2, k3, k4, k5, k6⟩
        · exact absurd g2 k2
        · have hb2 := hx_BK.keep g7 (fun x hx => hk2 x (by omega) (by unfold hk_In; omega))
          have hg9 := sp_prs_good (w := w) 9000 0 ([], [], [], []) sp_good.nil k2
          have hg92 := sp_prs_good2 (w := w) 9000 0 ([], [], [], []) sp_good2.nil k2
          exact ⟨⟨Or.inr ⟨g5, g6⟩, by rw [g5]; exact hk_E.mk ⟨by omega, by omega⟩ hP.1 ty2 (hr_20 hR) fx63 (by decide) hoc hp52 k5 ⟨hg9, hg92, hoc⟩ hb2 hSt hSs hTS2, by rw [g5]; exact hq_J.of hb2 hSs.2.1 hg9, hm_VQ.of hp52 k5 hg9⟩, by omega, hCH.keep0 hP.1 ty13 ty14 ty15 (hr_44 hR) (hr_45 hR) (hr_46 hR) hk7 k6.2 g81⟩
    obtain ⟨⟨hbt, hbE, hbJ, hbQ⟩, hbr, hbC⟩ := hBK
    have fx64 : V36 (a) = some (.inr (11, [.ref (nb), .ref (nb + 2), .ref (nb + 5), .ref (nb + 46), .ref (nb + 50), .ref (nb + 62), .ref (nb + 87), .int (z12), .ref (u14), .ref (u15)])) := (fr41 (a) (hq_tne ty0 ty20 (by simp)) (by omega) ⟨_, ty0, by decide⟩).trans (ho16)
    have fx65 : V36 (nb + 2) = some (.inr (7, [.int (z7), .int (z8), .ref (nb), .ref (nb + 465), .int (z9), .int (z10), .int (z11), .ref (nb + 3)])) := (fr41 (nb + 2) (hq_tne ty3 ty20 (by simp)) (by omega) ⟨_, ty3, by decide⟩).trans (ho18)
    have fx66 : V36 (nb + 50) = some (.inr (1, [.ref (nb + 51), .ref (nb + 52), .int (e_fd), .ref (nb + 53), .ref (nb + 55), .ref (nb + 57), e_bk, e_an, e_mk, .int (z13), .ref (nb + 59), .ref (nb + 60), .ref (nb + 61)])) := (fr41 (nb + 50) (hq_tne ty7 ty20 (by simp)) (by omega) ⟨_, ty7, by decide⟩).trans (ho19)
    have hl67 : (0 : Int32).toInt = 0 := by decide
    have hl68 : (0 : Int32).toInt = 0 := by decide
    have hinv9 : hk_InvX cs G a nb mo q V36 := ⟨hP.1, _, _, _, _, _, _, _, _, _, _, _, _, _, _, _, _, _, _, _, _, _, _, _, _, _, _, _, _, _, _, _, _, _, _, _, fx64, hbt, by omega, hbJ, fx65, fx66, by omega, by omega, fx63, ho50, by omega, by omega, by omega, by omega, by omega, by omega, by omega, by omega, by omega, hbQ, (by obtain ⟨fs9, h9⟩ := hst; exact ⟨fs9, ((fr41 (q + 19) (hq_tne (hr_19 hR) ty20 (by simp)) (by omega) ⟨_, (hr_19 hR), by decide⟩).trans (fr6 (q + 19) (hq_tne (hr_19 hR) ty0 (by simp)) (hq_tne (hr_19 hR) ty1 (by simp)) (hq_tne (hr_19 hR) ty3 (by simp)) (hq_tne (hr_19 hR) ty4 (by simp)) (hq_tne (hr_19 hR) hT2.1 (by simp)) (by omega) ⟨_, (hr_19 hR), by decide, by decide, by decide⟩)).trans h9⟩), hbE, hbC⟩
    exact kk _ _ _ ls hZ hinv9 (lv_sub hl [0, 1, 2, 3] rfl)
  · obtain ⟨hE0, ⟨w, hTx, hTm, hoc⟩, ⟨wb, bk, rh, hAR0, hBm, ⟨hgood, hgood2, hocb⟩, hBx⟩, hS0, hS1, hTS⟩ := id hE
    obtain ⟨hz1, hz2, tg0, htg0, hz3⟩ := hx_TP.opn hTx ho_n
    obtain ⟨tg1, htg1, hok, hz4⟩ := id hTm
    obtain ⟨hm1, hm2, hm3, -⟩ := id hBm
    refine lv_aload_n hx hb dL_law_210 rfl (lv_at hl 2 rfl) ?_
    refine hp_calli (hp_runV (As := []) (rest := []) hx hb hml hown hts (x_book_1 l D cs B G V9 n hP.1 (a) (nb) (nb + 465) (nb + 88) (mo) (q) (w) (c_fs) (q_tx) (q_ou) (q_fk) (q_fp) (q_nx) (q_tk) (q_st) (e_fd) (e_sz) (e_bk) (e_an) (e_mk)  ho_a ho_p ho_e hTx hS0.2.1 hS0.1 hT hT2 hak ⟨rfl, rfl⟩ hS0.2.2 hTS (by omega) (by omega) (by omega)) hZ ho_a cv_L_23 rfl rfl ⟨Nat.le_of_ble_eq_true rfl, Nat.le_of_ble_eq_true rfl⟩ rfl hl.1 rfl (Nat.le_of_ble_eq_true rfl) dL_law_211 ⟨(Nat.le_of_ble_eq_true rfl), (Nat.le_of_ble_eq_true rfl)⟩) hZ (fun r4 V1 n2 _ _ hw3 hZ => ?_)
    obtain ⟨rfl, hq5, fr6, z7, z8, z9, z10, z11, z12, z13, u14, u15, ho16, ho17, ho18, ho19, hp20, hp21, hp22, hp23, hp24⟩ := hw3
    have b25 := hq_rng z7
    have b26 := hq_rng z8
    have b27 := hq_rng z9
    have b28 := hq_rng z10
    have b29 := hq_rng z11
    have b30 := hq_rng z12
    have b31 := hq_rng z13
    have hP := hP.trans hq5 (fun _ h => Bool.noConfusion h)
    have b32 := hq_rng r4
    refine lv_pop hx hb dL_law_214 rfl ?_
    refine lv_aload_n hx hb dL_law_215 rfl (lv_at hl 1 rfl) ?_
    have hst9 : ∃ fs, V1 (q + 19) = some (.inr (12, fs)) := by obtain ⟨fs9, h9⟩ := hst; exact ⟨fs9, (fr6 (q + 19) (hq_tne (hr_19 hR) ty0 (by simp)) (hq_tne (hr_19 hR) ty1 (by simp)) (hq_tne (hr_19 hR) ty3 (by simp)) (hq_tne (hr_19 hR) ty4 (by simp)) (hq_tne (hr_19 hR) hT2.1 (by simp)) (by omega) ⟨_, (hr_19 hR), by decide, by decide, by decide⟩).trans h9⟩
    have fx33 : V1 (mo) = some (.inr (13, hm_o q (m_tp) (m_sz) (m_fr) (m_bh) (m_hd) (m_ft) (m_fa) (m_le) (m_fo) (m_as) (m_fd) (m_bc) (m_bg) (m_bs) (m_be) (m_b0) (m_b1) (m_cm) (m_hc))) := (fr6 (mo) (hq_tne ty20 ty0 (by simp)) (hq_tne ty20 ty1 (by simp)) (hq_tne ty20 ty3 (by simp)) (hq_tne ty20 ty4 (by simp)) (hq_tne ty20 hT2.1 (by simp)) (by omega) ⟨_, ty20, by decide, by decide, by decide⟩).trans (ho_m)
    have pk34 := hTm.keep (fr6 (q + 20) (hq_tne (hr_20 hR) ty0 (by simp)) (hq_tne (hr_20 hR) ty1 (by simp)) (hq_tne (hr_20 hR) ty3 (by simp)) (hq_tne (hr_20 hR) ty4 (by simp)) (hq_tne (hr_20 hR) hT2.1 (by simp)) (by omega) ⟨_, (hr_20 hR), by decide, by decide, by decide⟩)
    have pk35 := hAR0.keep (fun x7 (hx7 : q ≤ x7 ∧ x7 < q + 19) => fr6 x7 (by omega) (by omega) (by omega) (by omega) (by omega) (by omega) (by obtain ⟨t9, h91, h92⟩ := hT2.2.2.2 x7 (by unfold hk_In; omega); unfold hk_gr at h92; exact ⟨t9, h91, by omega, by omega, by omega⟩))
    refine hp_calli (hp_runVW (As := []) (rest := []) hx hb hml hown hts (y_book l D cs B G V1 n hP.1 (q) (mo) (w) (nb) (rh) (m_tp) (m_sz) (m_fr) (m_bh) (m_hd) (m_ft) (m_fa) (m_le) (m_fo) (m_as) (m_fd) (m_bc) (m_bg) (m_bs) (m_be) (m_b0) (m_b1) (m_cm) (m_hc)  fx33 pk34 pk35 hR ty20 (by omega) hT2 (by omega) hoc (by omega) (by omega) (by omega) (by omega) (by omega) (by omega) (by omega) (by omega) hst9) hZ fx33 cv_L_27 rfl rfl ⟨Nat.le_of_ble_eq_true rfl, Nat.le_of_ble_eq_true rfl⟩ rfl hl.1 rfl (Nat.le_of_ble_eq_true rfl) dL_law_216 ⟨(Nat.le_of_ble_eq_true rfl), (Nat.le_of_ble_eq_true rfl)⟩) hZ (fun r39 V36 n37 _ _ hw38 hZ => ?_)
    obtain ⟨rfl, hq40, fr41, z42, z43, z44, z45, z46, z47, z48, u49, ho50, hp51, hp52, hp53, hp54⟩ := hw38
    have b55 := hq_rng z42
    have b56 := hq_rng z43
    have b57 := hq_rng z44
    have b58 := hq_rng z45
    have b59 := hq_rng z46
    have b60 := hq_rng z47
    have b61 := hq_rng z48
    have hP := hP.trans hq40 (fun _ h => Bool.noConfusion h)
    have b62 := hq_rng r39
    refine lv_pop hx hb dL_law_219 rfl ?_
    refine lv_goto (tgt := 761) hx hb dL_law_220 (by decide) ?_
    have hk2 : ∀ x, (nb ≤ x ∧ x < nb + 842) → hk_In nb q x → V36 x = V1 x := fun x hx hi => fr41 x (by omega) (by omega) (by obtain ⟨t9, h91, h92⟩ := hT2.2.2.2 x hi; unfold hk_gr at h92; exact ⟨t9, h91, by omega⟩)
    have hk1 : ∀ x, (nb + 465 ≤ x ∧ x < nb + 842) → V36 x = V9 x := fun x hx => (hk2 x (by omega) (by unfold hk_In; omega)).trans (fr6 x (by omega) (by omega) (by omega) (by omega) (by omega) (by omega) (by obtain ⟨t9, h91, h92⟩ := hT2.2.2.2 x (by unfold hk_In; omega); unfold hk_gr at h92; exact ⟨t9, h91, by omega, by omega, by omega⟩))
    have fx63 : V36 (nb) = some (.inr (9, [.ref (nb + 1), .int (0)])) := (fr41 (nb) (hq_tne ty1 ty20 (by simp)) (by omega) ⟨_, ty1, by decide⟩).trans (ho17)
    have hSt : hx_SH cs V36 (nb + 465) := hS1.keep hk1
    have hSs : hx_SH cs V36 (nb + 88) := hx_SH.keep hp23 (fun x hx => hk2 x (by omega) (by unfold hk_In; omega))
    have hTS2 : hx_TS cs V36 (nb + 3) 12 := hx_TS.keep hp24 (hk2 _ (by omega) (by unfold hk_In; omega)) (hk2 _ (by omega) (by unfold hk_In; omega))
    have hk7 : V36 (nb + 7) = V9 (nb + 7) := (fr41 (nb + 7) (hq_tne hT3.2.1 ty20 (by simp)) (by omega) ⟨_, hT3.2.1, by decide⟩).trans (fr6 (nb + 7) (hq_tne hT3.2.1 ty0 (by simp)) (hq_tne hT3.2.1 ty1 (by simp)) (hq_tne hT3.2.1 ty3 (by simp)) (hq_tne hT3.2.1 ty4 (by simp)) (hq_tne hT3.2.1 hT2.1 (by simp)) (by omega) ⟨_, hT3.2.1, by decide, by decide, by decide⟩)
    have hk44 : V36 (q + 44) = V9 (q + 44) := (fr41 (q + 44) (hq_tne (hr_44 hR) ty20 (by simp)) (by omega) ⟨_, (hr_44 hR), by decide⟩).trans (fr6 (q + 44) (hq_tne (hr_44 hR) ty0 (by simp)) (hq_tne (hr_44 hR) ty1 (by simp)) (hq_tne (hr_44 hR) ty3 (by simp)) (hq_tne (hr_44 hR) ty4 (by simp)) (hq_tne (hr_44 hR) hT2.1 (by simp)) (by omega) ⟨_, (hr_44 hR), by decide, by decide, by decide⟩)
    have hk45 : V36 (q + 45) = V9 (q + 45) := (fr41 (q + 45) (hq_tne (hr_45 hR) ty20 (by simp)) (by omega) ⟨_, (hr_45 hR), by decide⟩).trans (fr6 (q + 45) (hq_tne (hr_45 hR) ty0 (by simp)) (hq_tne (hr_45 hR) ty1 (by simp)) (hq_tne (hr_45 hR) ty3 (by simp)) (hq_tne (hr_45 hR) ty4 (by simp)) (hq_tne (hr_45 hR) hT2.1 (by simp)) (by omega) ⟨_, (hr_45 hR), by decide, by decide, by decide⟩)
    have hk46 : V36 (q + 46) = V9 (q + 46) := (fr41 (q + 46) (hq_tne (hr_46 hR) ty20 (by simp)) (by omega) ⟨_, (hr_46 hR), by decide⟩).trans (fr6 (q + 46) (hq_tne (hr_46 hR) ty0 (by simp)) (hq_tne (hr_46 hR) ty1 (by simp)) (hq_tne (hr_46 hR) ty3 (by simp)) (hq_tne (hr_46 hR) ty4 (by simp)) (hq_tne (hr_46 hR) hT2.1 (by simp)) (by omega) ⟨_, (hr_46 hR), by decide, by decide, by decide⟩)
    have hk59 : V36 (nb + 59) = V1 (nb + 59) := fr41 (nb + 59) (hq_tne ty13 ty20 (by simp)) (by omega) ⟨_, ty13, by decide⟩
    have hk60 : V36 (nb + 60) = V1 (nb + 60) := fr41 (nb + 60) (hq_tne ty14 ty20 (by simp)) (by omega) ⟨_, ty14, by decide⟩
    have hk61 : V36 (nb + 61) = V1 (nb + 61) := fr41 (nb + 61) (hq_tne ty15 ty20 (by simp)) (by omega) ⟨_, ty15, by decide⟩
    have hBK : (((u14 = nb + 88 ∧ u15 = nb + 465) ∨ (u14 = nb + 465 ∧ u15 = nb + 88)) ∧ hk_E cs nb q V36 u14 z7 z8 z45 z46 ∧ hq_J cs V36 u14 ∧ hm_VQ cs V36 q 0 0) ∧ r4.toInt = r39.toInt ∧ hk_CH cs nb q V36 z13 z48 m_cm := by
      rcases hp20 with ⟨g1, g2, g3, g4, g5, g6, g61, g62, g63, g64⟩ | ⟨g1, g2, g3, g4, g5, g6, g7, g8, g81⟩
      · rcases hp51 with ⟨k1, k2, k3, k4, k5⟩ | ⟨k1, k2, -⟩
        · have hb2 := hBx.keep hk1
          have hm9 := hBm.held k5.1
          exact ⟨⟨Or.inr ⟨g5, g6⟩, by rw [g5]; exact hk_E.mk ⟨by omega, by omega⟩ hP.1 ty2 (hr_20 hR) fx63 (by decide) hoc hp52 hm9 ⟨hgood, hgood2, hocb⟩ hb2 hSs hSt hTS2, by rw [g5]; exact hq_J.of hb2 hSt.2.1 hgood, hm_VQ.of hp52 hm9 hgood⟩, by omega, by rw [g61, k5.2]; exact hCH.keep (fun x hx => by rcases hx with rfl | rfl | rfl | rfl | rfl | rfl | rfl; exact hk7; exact hk59.trans g62; exact hk60.trans g63; exact hk61.trans g64; exact hk44; exact hk45; exact hk46)⟩
        · exact absurd k2 g2
      · rcases hp51 with ⟨k1, k2, k3, k4, k5⟩ | ⟨k1, k2, k3, k4, k5, k6⟩
        · exact absurd g2 k2
        · have hb2 := hx_BK.keep g7 (fun x hx => hk2 x (by omega) (by unfold hk_In; omega))
          have hg9 := sp_prs_good (w := w) 9000 0 ([], [], [], []) sp_good.nil k2
          have hg92 := sp_prs_good2 (w := w) 9000 0 ([], [], [], []) sp_good2.nil k2
          exact ⟨⟨Or.inl ⟨g5, g6⟩, by rw [g5]; exact hk_E.mk ⟨by omega, by omega⟩ hP.1 ty2 (hr_20 hR) fx63 (by decide) hoc hp52 k5 ⟨hg9, hg92, hoc⟩ hb2 hSs hSt hTS2, by rw [g5]; exact hq_J.of hb2 hSs.2.1 hg9, hm_VQ.of hp52 k5 hg9⟩, by omega, hCH.keep0 hP.1 ty13 ty14 ty15 (hr_44 hR) (hr_45 hR) (hr_46 hR) hk7 k6.2 g81⟩
    obtain ⟨⟨hbt, hbE, hbJ, hbQ⟩, hbr, hbC⟩ := hBK
    have fx64 : V36 (a) = some (.inr (11, [.ref (nb), .ref (nb + 2), .ref (nb + 5), .ref (nb + 46), .ref (nb + 50), .ref (nb + 62), .ref (nb + 87), .int (z12), .ref (u14), .ref (u15)])) := (fr41 (a) (hq_tne ty0 ty20 (by simp)) (by omega) ⟨_, ty0, by decide⟩).trans (ho16)
    have fx65 : V36 (nb + 2) = some (.inr (7, [.int (z7), .int (z8), .ref (nb), .ref (nb + 88), .int (z9), .int (z10), .int (z11), .ref (nb + 3)])) := (fr41 (nb + 2) (hq_tne ty3 ty20 (by simp)) (by omega) ⟨_, ty3, by decide⟩).trans (ho18)
    have fx66 : V36 (nb + 50) = some (.inr (1, [.ref (nb + 51), .ref (nb + 52), .int (e_fd), .ref (nb + 53), .ref (nb + 55), .ref (nb + 57), e_bk, e_an, e_mk, .int (z13), .ref (nb + 59), .ref (nb + 60), .ref (nb + 61)])) := (fr41 (nb + 50) (hq_tne ty7 ty20 (by simp)) (by omega) ⟨_, ty7, by decide⟩).trans (ho19)
    have hl67 : (0 : Int32).toInt = 0 := by decide
    have hl68 : (0 : Int32).toInt = 0 := by decide
    have hinv9 : hk_InvX cs G a nb mo q V36 := ⟨hP.1, _, _, _, _, _, _, _, _, _, _, _, _, _, _, _, _, _, _, _, _, _, _, _, _, _, _, _, _, _, _, _, _, _, _, _, fx64, hbt, by omega, hbJ, fx65, fx66, by omega, by omega, fx63, ho50, by omega, by omega, by omega, by omega, by omega, by omega, by omega, by omega, by omega, hbQ, (by obtain ⟨fs9, h9⟩ := hst; exact ⟨fs9, ((fr41 (q + 19) (hq_tne (hr_19 hR) ty20 (by simp)) (by omega) ⟨_, (hr_19 hR), by decide⟩).trans (fr6 (q + 19) (hq_tne (hr_19 hR) ty0 (by simp)) (hq_tne (hr_19 hR) ty1 (by simp)) (hq_tne (hr_19 hR) ty3 (by simp)) (hq_tne (hr_19 hR) ty4 (by simp)) (hq_tne (hr_19 hR) hT2.1 (by simp)) (by omega) ⟨_, (hr_19 hR), by decide, by decide, by decide⟩)).trans h9⟩), hbE, hbC⟩
    exact kk _ _ _ ls hZ hinv9 (lv_sub hl [0, 1, 2, 3] rfl)

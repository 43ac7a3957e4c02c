set_option maxHeartbeats 8000000 in
set_option maxRecDepth 100000 in
theorem hx_c_feed {p : Program} {e : Env} {s : State} {m : MethodId} {below : List Frame} {meth : Method} {c : Code} (l : Launch) (D : va_G) (cs : Nat → ClassId) (B : Nat) (G : hq_G) {b L : Nat} {xs : Nat → Int32} (hx : p.tables.exec = Jvm.exec) (hb : c.code = code) (hml : c.maxLocals = 4) (hown : s.vm.findClass RL = some m.cls) (hts : ∀ w ∈ TBG, w.before #[Value.ref b] s = true) (hX : va_X b L xs s s.heap) (hbl : b < s.heap.size) (hbA : ¬ hp_F B b) (hL : L ≤ 3072) (a nb mo q n : Nat) (hT : hk_Ty G a nb mo q) (hT2 : hk_T2 G nb q) (hT3 : hk_T3 G nb) (hT4 : hk_T4 G nb q) (hak : a + 1 = nb) (hmo9 : mo = nb + 842) (hq9 : q = nb + 843) (i : Int32) (hi0 : 0 ≤ i.toInt) (hi1 : i.toInt + 6 ≤ L) (kk : ∀ (V9 : hp_V) (H9 : Heap) (locs9 : List Loc) (ls : Array Slot), hp_Z D cs B s V9 H9 n locs9 → hk_InvX cs G a nb mo q V9 → lv_has ls 4 [(3, .int i), (2, .ref mo), (1, .ref a), (0, .ref b)] → W p l e room_1 s m #[Value.ref b] below meth c H9 locs9 891 28710 (lw_Z below #[Value.ref b] s) (F0 m 761 ls [])) (V9 : hp_V) (H9 : Heap) (locs9 : List Loc) (ls : Array Slot) (hZ : hp_Z D cs B s V9 H9 n locs9) (hinv : hk_InvX cs G a nb mo q V9) (hl : lv_has ls 4 [(3, .int i), (2, .ref mo), (1, .ref a), (0, .ref b)]) : W p l e room_1 s m #[Value.ref b] below meth c H9 locs9 891 28710 (lw_Z below #[Value.ref b] s) (F0 m 124 ls []) := by
  obtain ⟨ty0, ty1, ty2, ty3, ty4, ty5, ty6, ty7, ty8, ty9, ty10, ty11, ty12, ty13, ty14, ty15, ty16, ty17, ty18, ty19, ty20, hR⟩ := id hT
  obtain ⟨hI, c_fs, q_fk, q_fp, q_nx, q_tk, q_st, e_fd, e_sz, p_z, m_tp, m_sz, m_fr, m_bh, m_hd, m_ft, m_fa, m_le, m_fo, m_as, m_fd, m_bc, m_bg, m_bs, m_be, m_b0, m_b1, m_cm, m_hc, c_to, c_sp, q_tx, q_ou, e_bk, e_an, e_mk, ho_a, htold, hfs, hJ, ho_p, ho_e, hef, hes, ho_n, ho_m, hiv0, hiv1, hiv2, hiv3, hiv4, hiv5, hiv6, hiv7, hzt, hVQ, hst, hE, hCH⟩ := hinv
  have hP : hq_P cs G (fun _ => true) V9 V9 := hq_P.rf hI
  have hb_c_fs := hq_rng c_fs
  have hb_q_fk := hq_rng q_fk
  have hb_q_fp := hq_rng q_fp
  have hb_q_nx := hq_rng q_nx
  have hb_q_tk := hq_rng q_tk
  have hb_q_st := hq_rng q_st
  have hb_e_fd := hq_rng e_fd
  have hb_e_sz := hq_rng e_sz
  have hb_p_z := hq_rng p_z
  have hb_m_tp := hq_rng m_tp
  have hb_m_sz := hq_rng m_sz
  have hb_m_fr := hq_rng m_fr
  have hb_m_bh := hq_rng m_bh
  have hb_m_hd := hq_rng m_hd
  have hb_m_ft := hq_rng m_ft
  have hb_m_fa := hq_rng m_fa
  have hb_m_le := hq_rng m_le
  have hb_m_fo := hq_rng m_fo
  have hb_m_as := hq_rng m_as
  have hb_m_fd := hq_rng m_fd
  have hb_m_bc := hq_rng m_bc
  have hb_m_bg := hq_rng m_bg
  have hb_m_bs := hq_rng m_bs
  have hb_m_be := hq_rng m_be
  have hb_m_b0 := hq_rng m_b0
  have hb_m_b1 := hq_rng m_b1
  have hb_m_cm := hq_rng m_cm
  have hb_m_hc := hq_rng m_hc
  have hb_i := hq_rng i
  rcases htold with ⟨rfl, rfl⟩ | ⟨rfl, rfl⟩
  · obtain ⟨hE0, ⟨w, hTx, hTm, hoc⟩, ⟨wb, bk, rh, hAR0, hBm, ⟨hgood, hgood2, hocb⟩, hBx⟩, hS0, hS1, hTS⟩ := id hE
    obtain ⟨hz1, hz2, tg0, htg0, hz3⟩ := hx_TP.opn hTx ho_n
    obtain ⟨tg1, htg1, hok, hz4⟩ := id hTm
    obtain ⟨hm1, hm2, hm3, -⟩ := id hBm
    refine lv_aload_n hx hb dL_law_124 rfl (lv_at hl 2 rfl) ?_
    refine lv_aload_n hx hb dL_law_125 rfl (lv_at hl 3 rfl) ?_
    refine lv_iload_n hx hb dL_law_126 rfl (lv_at hl 0 rfl) ?_
    refine lv_iconst (v := 1) hx hb dL_law_127 (by decide) ?_
    refine lv_iadd hx hb dL_law_128 ?_
    refine va_sld hx hb hX hbl hbA hZ.2.1 (hk_ix hi0 hi1 hL (by decide) (by decide)) dL_law_129 ?_
    refine lv_topi (fun y1 ey2 => ?_)
    refine lv_aload_n hx hb dL_law_130 rfl (lv_at hl 3 rfl) ?_
    refine lv_iload_n hx hb dL_law_131 rfl (lv_at hl 0 rfl) ?_
    refine lv_iconst (v := 2) hx hb dL_law_132 (by decide) ?_
    refine lv_iadd hx hb dL_law_133 ?_
    refine va_sld hx hb hX hbl hbA hZ.2.1 (hk_ix hi0 hi1 hL (by decide) (by decide)) dL_law_134 ?_
    refine lv_topi (fun y3 ey4 => ?_)
    refine lv_aload_n hx hb dL_law_135 rfl (lv_at hl 3 rfl) ?_
    refine lv_iload_n hx hb dL_law_136 rfl (lv_at hl 0 rfl) ?_
    refine lv_iconst (v := 3) hx hb dL_law_137 (by decide) ?_
    refine lv_iadd hx hb dL_law_138 ?_
    refine va_sld hx hb hX hbl hbA hZ.2.1 (hk_ix hi0 hi1 hL (by decide) (by decide)) dL_law_139 ?_
    refine lv_topi (fun y5 ey6 => ?_)
    refine lv_aload_n hx hb dL_law_140 rfl (lv_at hl 3 rfl) ?_
    refine lv_iload_n hx hb dL_law_141 rfl (lv_at hl 0 rfl) ?_
    refine lv_iconst (v := 4) hx hb dL_law_142 (by decide) ?_
    refine lv_iadd hx hb dL_law_143 ?_
    refine va_sld hx hb hX hbl hbA hZ.2.1 (hk_ix hi0 hi1 hL (by decide) (by decide)) dL_law_144 ?_
    refine lv_topi (fun y7 ey8 => ?_)
    refine lv_aload_n hx hb dL_law_145 rfl (lv_at hl 3 rfl) ?_
    refine lv_iload_n hx hb dL_law_146 rfl (lv_at hl 0 rfl) ?_
    refine lv_iconst (v := 5) hx hb dL_law_147 (by decide) ?_
    refine lv_iadd hx hb dL_law_148 ?_
    refine va_sld hx hb hX hbl hbA hZ.2.1 (hk_ix hi0 hi1 hL (by decide) (by decide)) dL_law_149 ?_
    refine lv_topi (fun y9 ey10 => ?_)
    have hfb0 := hq_rgB hP.1 ty2 htg0
    refine hp_calli (hp_runV (As := [.int (y1), .int (y3), .int (y5), .int (y7), .int (y9)]) (rest := []) hx hb hml hown hts (x_feed l D cs B G V9 n hP.1 (a) (nb) (nb + 88) (nb + 465) (w) (y1) (y3) (y5) (y7) (y9) (c_fs) (p_z) (tg0) ty0 ty1 ty2 ho_a ho_n htg0  hok ⟨hz1, hz3⟩) hZ ho_a cv_L_13 rfl rfl ⟨Nat.le_of_ble_eq_true rfl, Nat.le_of_ble_eq_true rfl⟩ rfl hl.1 rfl (Nat.le_of_ble_eq_true rfl) dL_law_150 ⟨(Nat.le_of_ble_eq_true rfl), (Nat.le_of_ble_eq_true rfl)⟩) hZ (fun r14 V11 n12 _ _ hw13 hZ => ?_)
    obtain ⟨rfl, hq15, fr16, z17, u18, ho19, ho20, hp21⟩ := hw13
    have b22 := hq_rng z17
    have hP := hP.trans hq15 (fun _ h => Bool.noConfusion h)
    have hf23 := hq_rgB hP.1 ty2 ho20
    have b24 := hq_rng r14
    refine lv_pop hx hb dL_law_153 rfl ?_
    refine lv_aload_n hx hb dL_law_154 rfl (lv_at hl 1 rfl) ?_
    refine lv_aload_n hx hb dL_law_155 rfl (lv_at hl 3 rfl) ?_
    refine lv_iload_n hx hb dL_law_156 rfl (lv_at hl 0 rfl) ?_
    refine lv_iconst (v := 1) hx hb dL_law_157 (by decide) ?_
    refine lv_iadd hx hb dL_law_158 ?_
    refine va_sld hx hb hX hbl hbA hZ.2.1 (hk_ix hi0 hi1 hL (by decide) (by decide)) dL_law_159 ?_
    refine lv_topi (fun y25 ey26 => ?_)
    have b27 : y1 = y25 := by rw [ey26, ey2]
    subst b27
    refine lv_aload_n hx hb dL_law_160 rfl (lv_at hl 3 rfl) ?_
    refine lv_iload_n hx hb dL_law_161 rfl (lv_at hl 0 rfl) ?_
    refine lv_iconst (v := 2) hx hb dL_law_162 (by decide) ?_
    refine lv_iadd hx hb dL_law_163 ?_
    refine va_sld hx hb hX hbl hbA hZ.2.1 (hk_ix hi0 hi1 hL (by decide) (by decide)) dL_law_164 ?_
    refine lv_topi (fun y28 ey29 => ?_)
    have b30 : y3 = y28 := by rw [ey29, ey4]
    subst b30
    refine lv_aload_n hx hb dL_law_165 rfl (lv_at hl 3 rfl) ?_
    refine lv_iload_n hx hb dL_law_166 rfl (lv_at hl 0 rfl) ?_
    refine lv_iconst (v := 3) hx hb dL_law_167 (by decide) ?_
    refine lv_iadd hx hb dL_law_168 ?_
    refine va_sld hx hb hX hbl hbA hZ.2.1 (hk_ix hi0 hi1 hL (by decide) (by decide)) dL_law_169 ?_
    refine lv_topi (fun y31 ey32 => ?_)
    have b33 : y5 = y31 := by rw [ey32, ey6]
    subst b33
    refine lv_aload_n hx hb dL_law_170 rfl (lv_at hl 3 rfl) ?_
    refine lv_iload_n hx hb dL_law_171 rfl (lv_at hl 0 rfl) ?_
    refine lv_iconst (v := 4) hx hb dL_law_172 (by decide) ?_
    refine lv_iadd hx hb dL_law_173 ?_
    refine va_sld hx hb hX hbl hbA hZ.2.1 (hk_ix hi0 hi1 hL (by decide) (by decide)) dL_law_174 ?_
    refine lv_topi (fun y34 ey35 => ?_)
    have b36 : y7 = y34 := by rw [ey35, ey8]
    subst b36
    refine lv_aload_n hx hb dL_law_175 rfl (lv_at hl 3 rfl) ?_
    refine lv_iload_n hx hb dL_law_176 rfl (lv_at hl 0 rfl) ?_
    refine lv_iconst (v := 5) hx hb dL_law_177 (by decide) ?_
    refine lv_iadd hx hb dL_law_178 ?_
    refine va_sld hx hb hX hbl hbA hZ.2.1 (hk_ix hi0 hi1 hL (by decide) (by decide)) dL_law_179 ?_
    refine lv_topi (fun y37 ey38 => ?_)
    have b39 : y9 = y37 := by rw [ey38, ey10]
    subst b39
    have fx40 : V11 (mo) = some (.inr (13, hm_o q (m_tp) (m_sz) (m_fr) (m_bh) (m_hd) (m_ft) (m_fa) (m_le) (m_fo) (m_as) (m_fd) (m_bc) (m_bg) (m_bs) (m_be) (m_b0) (m_b1) (m_cm) (m_hc))) := (fr16 (mo) (hq_tne ty20 ty1 (by simp)) (hq_tne ty20 ty2 (by simp))).trans (ho_m)
    have fx41 : V11 (q + 20) = some (.inl (cs 0, 4000, .inl (tg1))) := (fr16 (q + 20) (hq_tne (hr_20 hR) ty1 (by simp)) (hq_tne (hr_20 hR) ty2 (by simp))).trans (htg1)
    refine hp_calli (hp_runV (As := [.int (y1), .int (y3), .int (y5), .int (y7), .int (y9)]) (rest := []) hx hb hml hown hts (y_feed l D cs B G V11 n hP.1 (q) (mo) (w) (m_tp) (m_sz) (m_fr) (m_bh) (m_hd) (m_ft) (m_fa) (m_le) (m_fo) (m_as) (m_fd) (m_bc) (m_bg) (m_bs) (m_be) (m_b0) (m_b1) (m_cm) (m_hc) (y1) (y3) (y5) (y7) (y9) (tg1)  fx40 fx41  hR ty20 (by omega) hok ⟨by omega, hz4⟩) hZ fx40 cv_L_17 rfl rfl ⟨Nat.le_of_ble_eq_true rfl, Nat.le_of_ble_eq_true rfl⟩ rfl hl.1 rfl (Nat.le_of_ble_eq_true rfl) dL_law_180 ⟨(Nat.le_of_ble_eq_true rfl), (Nat.le_of_ble_eq_true rfl)⟩) hZ (fun r45 V42 n43 _ _ hw44 hZ => ?_)
    obtain ⟨rfl, hq46, fr47, z48, u49, ho50, ho51, hp52⟩ := hw44
    have b53 := hq_rng z48
    have hP := hP.trans hq46 (fun _ h => Bool.noConfusion h)
    have hf54 := hq_rg20 hP.1 (hr_20 hR) ho51
    have b55 := hq_rng r45
    refine lv_pop hx hb dL_law_183 rfl ?_
    refine lv_goto (tgt := 761) hx hb dL_law_184 (by decide) ?_
    have fx56 : V42 (a) = some (.inr (11, [.ref (nb), .ref (nb + 2), .ref (nb + 5), .ref (nb + 46), .ref (nb + 50), .ref (nb + 62), .ref (nb + 87), .int (c_fs), .ref (nb + 88), .ref (nb + 465)])) := (fr47 (a) (hq_tne ty0 ty20 (by simp)) (hq_tne ty0 (hr_20 hR) (by simp))).trans ((fr16 (a) (hq_tne ty0 ty1 (by simp)) (hq_tne ty0 ty2 (by simp))).trans (ho_a))
    have fx57 : V42 (nb + 2) = some (.inr (7, [.int (q_fk), .int (q_fp), q_tx, q_ou, .int (q_nx), .int (q_tk), .int (q_st), .ref (nb + 3)])) := (fr47 (nb + 2) (hq_tne ty3 ty20 (by simp)) (hq_tne ty3 (hr_20 hR) (by simp))).trans ((fr16 (nb + 2) (hq_tne ty3 ty1 (by simp)) (hq_tne ty3 ty2 (by simp))).trans (ho_p))
    have fx58 : V42 (nb + 50) = some (.inr (1, [.ref (nb + 51), .ref (nb + 52), .int (e_fd), .ref (nb + 53), .ref (nb + 55), .ref (nb + 57), e_bk, e_an, e_mk, .int (e_sz), .ref (nb + 59), .ref (nb + 60), .ref (nb + 61)])) := (fr47 (nb + 50) (hq_tne ty7 ty20 (by simp)) (hq_tne ty7 (hr_20 hR) (by simp))).trans ((fr16 (nb + 50) (hq_tne ty7 ty1 (by simp)) (hq_tne ty7 ty2 (by simp))).trans (ho_e))
    have fx59 : V42 (nb) = some (.inr (9, [.ref (nb + 1), .int (z17)])) := (fr47 (nb) (hq_tne ty1 ty20 (by simp)) (hq_tne ty1 (hr_20 hR) (by simp))).trans (ho19)
    have hkx : ∀ x, hk_In nb q x → V42 x = V9 x := fun x7 hx7 => by unfold hk_In at hx7; exact (fr47 x7 (by omega) (by omega)).trans (fr16 x7 (by omega) (by omega))
    have fx60 : V42 (nb + 1) = some (.inl (cs 0, 4000, .inl (u18))) := (fr47 (nb + 1) (hq_tne ty2 ty20 (by simp)) (hq_tne ty2 (hr_20 hR) (by simp))).trans (ho20)
    have hE9 : hk_E cs nb q V42 (nb + 88) q_fk q_fp m_ft m_fa ∧ (z17).toInt = (z48).toInt ∧ (0 ≤ (z48).toInt ∧ (z48).toInt ≤ 4000) := by
      have hfn := sp_feed_n w y1 y3 y5 y7 y9
      rcases hp21 with ⟨g1, g2, g3, g4⟩ | ⟨g1, g2, g3, g4⟩
      · rcases hp52 with ⟨k1, k2, k3, k4⟩ | ⟨k1, k2, k3, k4⟩
        · exact ⟨hE.tape (w := sp_feed w y1 y3 y5 y7 y9) (Or.inl rfl) hkx ⟨_, _, fx59, fx60, g2, by omega, g3⟩ ⟨_, ho51, sp_okb_feed hok (by omega), k3⟩ (sp_okc_feed hoc), by omega, by omega⟩
        · exact absurd g1 k1
      · rcases hp52 with ⟨k1, k2, k3, k4⟩ | ⟨k1, k2, k3, k4⟩
        · exact absurd k1 g1
        · exact ⟨hE.tape (w := w) (Or.inl rfl) hkx ⟨_, _, fx59, fx60, by rw [g2]; exact hz1, hz2, by rw [g3]; exact hz3⟩ ⟨_, ho51, hok, by rw [k3]; exact hz4⟩ hoc, by rw [g2, k2]; exact hzt, by rw [k2]; omega⟩
    obtain ⟨hE9, hzz, hzb⟩ := hE9
    obtain ⟨-, -, ⟨wb9, bk9, rh9, hAR9, hBm9, hgood9, hBx9⟩, hS09, hS19, -⟩ := id hE9
    have hkc : ∀ x, hk_Ic nb q x → V42 x = V9 x := fun x7 hx7 => by unfold hk_Ic at hx7; exact (fr47 x7 (by omega) (by omega)).trans (fr16 x7 (by omega) (by omega))
    have hinv9 : hk_InvX cs G a nb mo q V42 := ⟨hP.1, _, _, _, _, _, _, _, _, _, _, _, _, _, _, _, _, _, _, _, _, _, _, _, _, _, _, _, _, _, _, _, _, _, _, _, fx56, Or.inl ⟨rfl, rfl⟩, by omega, (hq_J.of hBx9 hS09.2.1 hgood9.1), fx57, fx58, by omega, by omega, fx59, ho50, by omega, by omega, by omega, by omega, by omega, by omega, by omega, by omega, by omega, (hm_VQ.of hAR9 hBm9 hgood9.1), (by obtain ⟨fs9, h9⟩ := hst; exact ⟨fs9, ((fr47 (q + 19) (hq_tne (hr_19 hR) ty20 (by simp)) (hq_tne (hr_19 hR) (hr_20 hR) (by simp))).trans (fr16 (q + 19) (hq_tne (hr_19 hR) ty1 (by simp)) (hq_tne (hr_19 hR) ty2 (by simp)))).trans h9⟩), hE9, (hCH.keep hkc)⟩
    exact kk _ _ _ ls hZ hinv9 (lv_sub hl [0, 1, 2, 3] rfl)
  · obtain ⟨hE0, ⟨w, hTx, hTm, hoc⟩, ⟨wb, bk, rh, hAR0, hBm, ⟨hgood, hgood2, hocb⟩, hBx⟩, hS0, hS1, hTS⟩ := id hE
    obtain ⟨hz1, hz2, tg0, htg0, hz3⟩ := hx_TP.opn hTx ho_n
    obtain ⟨tg1, htg1, hok, hz4⟩ := id hTm
    obtain ⟨hm1, hm2, hm3, -⟩ := id hBm
    refine lv_aload_n hx hb dL_law_124 rfl (lv_at hl 2 rfl) ?_
    refine lv_aload_n hx hb dL_law_125 rfl (lv_at hl 3 rfl) ?_
    refine lv_iload_n hx hb dL_law_126 rfl (lv_at hl 0 rfl) ?_
    refine lv_iconst (v := 1) hx hb dL_law_127 (by decide) ?_
    refine lv_iadd hx hb dL_law_128 ?_
    refine va_sld hx hb hX hbl hbA hZ.2.1 (hk_ix hi0 hi1 hL (by decide) (by decide)) dL_law_129 ?_
    refine lv_topi (fun y1 ey2 => ?_)
    refine lv_aload_n hx hb dL_law_130 rfl (lv_at hl 3 rfl) ?_
    refine lv_iload_n hx hb dL_law_131 rfl (lv_at hl 0 rfl) ?_
    refine lv_iconst (v := 2) hx hb dL_law_132 (by decide) ?_
    refine lv_iadd hx hb dL_law_133 ?_
    refine va_sld hx hb hX hbl hbA hZ.2.1 (hk_ix hi0 hi1 hL (by decide) (by decide)) dL_law_134 ?_
    refine lv_topi (fun y3 ey4 => ?_)
    refine lv_aload_n hx hb dL_law_135 rfl (lv_at hl 3 rfl) ?_
    refine lv_iload_n hx hb dL_law_136 rfl (lv_at hl 0 rfl) ?_
    refine lv_iconst (v := 3) hx hb dL_law_137 (by decide) ?_
    refine lv_iadd hx hb dL_law_138 ?_
    refine va_sld hx hb hX hbl hbA hZ.2.1 (hk_ix hi0 hi1 hL (by decide) (by decide)) dL_law_139 ?_
    refine lv_topi (fun y5 ey6 => ?_)
    refine lv_aload_n hx hb dL_law_140 rfl (lv_at hl 3 rfl) ?_
    refine lv_iload_n hx hb dL_law_141 rfl (lv_at hl 0 rfl) ?_
    refine lv_iconst (v := 4) hx hb dL_law_142 (by decide) ?_
    refine lv_iadd hx hb dL_law_143 ?_
    refine va_sld hx hb hX hbl hbA hZ.2.1 (hk_ix hi0 hi1 hL (by decide) (by decide)) dL_law_144 ?_
    refine lv_topi (fun y7 ey8 => ?_)
    refine lv_aload_n hx hb dL_law_145 rfl (lv_at hl 3 rfl) ?_
    refine lv_iload_n hx hb dL_law_146 rfl (lv_at hl 0 rfl) ?_
    refine lv_iconst (v := 5) hx hb dL_law_147 (by decide) ?_
    refine lv_iadd hx hb dL_law_148 ?_
    refine va_sld hx hb hX hbl hbA hZ.2.1 (hk_ix hi0 hi1 hL (by decide) (by decide)) dL_law_149 ?_
    refine lv_topi (fun y9 ey10 => ?_)
    have hfb0 := hq_rgB hP.1 ty2 htg0
    refine hp_calli (hp_runV (As := [.int (y1), .int (y3), .int (y5), .int (y7), .int (y9)]) (rest := []) hx hb hml hown hts (x_feed l D cs B G V9 n hP.1 (a) (nb) (nb + 465) (nb + 88) (w) (y1) (y3) (y5) (y7) (y9) (c_fs) (p_z) (tg0) ty0 ty1 ty2 ho_a ho_n htg0  hok ⟨hz1, hz3⟩) hZ ho_a cv_L_13 rfl rfl ⟨Nat.le_of_ble_eq_true rfl, Nat.le_of_ble_eq_true rfl⟩ rfl hl.1 rfl (Nat.le_of_ble_eq_true rfl) dL_law_150 ⟨(Nat.le_of_ble_eq_true rfl), (Nat.le_of_ble_eq_true rfl)⟩) hZ (fun r14 V11 n12 _ _ hw13 hZ => ?_)
    obtain ⟨rfl, hq15, fr16, z17, u18, ho19, ho20, hp21⟩ := hw13
    have b22 := hq_rng z17
    have hP := hP.trans hq15 (fun _ h => Bool.noConfusion h)
    have hf23 := hq_rgB hP.1 ty2 ho20
    have b24 := hq_rng r14
    refine lv_pop hx hb dL_law_153 rfl ?_
    refine lv_aload_n hx hb dL_law_154 rfl (lv_at hl 1 rfl) ?_
    refine lv_aload_n hx hb dL_law_155 rfl (lv_at hl 3 rfl) ?_
    refine lv_iload_n hx hb dL_law_156 rfl (lv_at hl 0 rfl) ?_
    refine lv_iconst (v := 1) hx hb dL_law_157 (by decide) ?_
    refine lv_iadd hx hb dL_law_158 ?_
    refine va_sld hx hb hX hbl hbA hZ.2.1 (hk_ix hi0 hi1 hL (by decide) (by decide)) dL_law_159 ?_
    refine lv_topi (fun y25 ey26 => ?_)
    have b27 : y1 = y25 := by rw [ey26, ey2]
    subst b27
    refine lv_aload_n hx hb dL_law_160 rfl (lv_at hl 3 rfl) ?_
    refine lv_iload_n hx hb dL_law_161 rfl (lv_at hl 0 rfl) ?_
    refine lv_iconst (v := 2) hx hb dL_law_162 (by decide) ?_
    refine lv_iadd hx hb dL_law_163 ?_
    refine va_sld hx hb hX hbl hbA hZ.2.1 (hk_ix hi0 hi1 hL (by decide) (by decide)) dL_law_164 ?_
    refine lv_topi (fun y28 ey29 => ?_)
    have b30 : y3 = y28 := by rw [ey29, ey4]
    subst b30
    refine lv_aload_n hx hb dL_law_165 rfl (lv_at hl 3 rfl) ?_
    refine lv_iload_n hx hb dL_law_166 rfl (lv_at hl 0 rfl) ?_
    refine lv_iconst (v := 3) hx hb dL_law_167 (by decide) ?_
    refine lv_iadd hx hb dL_law_168 ?_
    refine va_sld hx hb hX hbl hbA hZ.2.1 (hk_ix hi0 hi1 hL (by decide) (by decide)) dL_law_169 ?_
    refine lv_topi (fun y31 ey32 => ?_)
    have b33 : y5 = y31 := by rw [ey32, ey6]
    subst b33
    refine lv_aload_n hx hb dL_law_170 rfl (lv_at hl 3 rfl) ?_
    refine lv_iload_n hx hb dL_law_171 rfl (lv_at hl 0 rfl) ?_
    refine lv_iconst (v := 4) hx hb dL_law_172 (by decide) ?_
    refine lv_iadd hx hb dL_law_173 ?_
    refine va_sld hx hb hX hbl hbA hZ.2.1 (hk_ix hi0 hi1 hL (by decide) (by decide)) dL_law_174 ?_
    refine lv_topi (fun y34 ey35 => ?_)
    have b36 : y7 = y34 := by rw [ey35, ey8]
    subst b36
    refine lv_aload_n hx hb dL_law_175 rfl (lv_at hl 3 rfl) ?_
    refine lv_iload_n hx hb dL_law_176 rfl (lv_at hl 0 rfl) ?_
    refine lv_iconst (v := 5) hx hb dL_law_177 (by decide) ?_
    refine lv_iadd hx hb dL_law_178 ?_
    refine va_sld hx hb hX hbl hbA hZ.2.1 (hk_ix hi0 hi1 hL (by decide) (by decide)) dL_law_179 ?_
    refine lv_topi (fun y37 ey38 => ?_)
    have b39 : y9 = y37 := by rw [ey38, ey10]
    subst b39
    have fx40 : V11 (mo) = some (.inr (13, hm_o q (m_tp) (m_sz) (m_fr) (m_bh) (m_hd) (m_ft) (m_fa) (m_le) (m_fo) (m_as) (m_fd) (m_bc) (m_bg) (m_bs) (m_be) (m_b0) (m_b1) (m_cm) (m_hc))) := (fr16 (mo) (hq_tne ty20 ty1 (by simp)) (hq_tne ty20 ty2 (by simp))).trans (ho_m)
    have fx41 : V11 (q + 20) = some (.inl (cs 0, 4000, .inl (tg1))) := (fr16 (q + 20) (hq_tne (hr_20 hR) ty1 (by simp)) (hq_tne (hr_20 hR) ty2 (by simp))).trans (htg1)
    refine hp_calli (hp_runV (As := [.int (y1), .int (y3), .int (y5), .int (y7), .int (y9)]) (rest := []) hx hb hml hown hts (y_feed l D cs B G V11 n hP.1 (q) (mo) (w) (m_tp) (m_sz) (m_fr) (m_bh) (m_hd) (m_ft) (m_fa) (m_le) (m_fo) (m_as) (m_fd) (m_bc) (m_bg) (m_bs) (m_be) (m_b0) (m_b1) (m_cm) (m_hc) (y1) (y3) (y5) (y7) (y9) (tg1)  fx40 fx41  hR ty20 (by omega) hok ⟨by omega, hz4⟩) hZ fx40 cv_L_17 rfl rfl ⟨Nat.le_of_ble_eq_true rfl, Nat.le_of_ble_eq_true rfl⟩ rfl hl.1 rfl (Nat.le_of_ble_eq_true rfl) dL_law_180 ⟨(Nat.le_of_ble_eq_true rfl), (Nat.le_of_ble_eq_true rfl)⟩) hZ (fun r45 V42 n43 _ _ hw44 hZ => ?_)
    obtain ⟨rfl, hq46, fr47, z48, u49, ho50, ho51, hp52⟩ := hw44
    have b53 := hq_rng z48
    have hP := hP.trans hq46 (fun _ h => Bool.noConfusion h)
    have hf54 := hq_rg20 hP.1 (hr_20 hR) ho51
    have b55 := hq_rng r45
    refine lv_pop hx hb dL_law_183 rfl ?_
    refine lv_goto (tgt := 761) hx hb dL_law_184 (by decide) ?_
    have fx56 : V42 (a) = some (.inr (11, [.ref (nb), .ref (nb + 2), .ref (nb + 5), .ref (nb + 46), .ref (nb + 50), .ref (nb + 62), .ref (nb + 87), .int (c_fs), .ref (nb + 465), .ref (nb + 88)])) := (fr47 (a) (hq_tne ty0 ty20 (by simp)) (hq_tne ty0 (hr_20 hR) (by simp))).trans ((fr16 (a) (hq_tne ty0 ty1 (by simp)) (hq_tne ty0 ty2 (by simp))).trans (ho_a))
    have fx57 : V42 (nb + 2) = some (.inr (7, [.int (q_fk), .int (q_fp), q_tx, q_ou, .int (q_nx), .int (q_tk), .int (q_st), .ref (nb + 3)])) := (fr47 (nb + 2) (hq_tne ty3 ty20 (by simp)) (hq_tne ty3 (hr_20 hR) (by simp))).trans ((fr16 (nb + 2) (hq_tne ty3 ty1 (by simp)) (hq_tne ty3 ty2 (by simp))).trans (ho_p))
    have fx58 : V42 (nb + 50) = some (.inr (1, [.ref (nb + 51), .ref (nb + 52), .int (e_fd), .ref (nb + 53), .ref (nb + 55), .ref (nb + 57), e_bk, e_an, e_mk, .int (e_sz), .ref (nb + 59), .ref (nb + 60), .ref (nb + 61)])) := (fr47 (nb + 50) (hq_tne ty7 ty20 (by simp)) (hq_tne ty7 (hr_20 hR) (by simp))).trans ((fr16 (nb + 50) (hq_tne ty7 ty1 (by simp)) (hq_tne ty7 ty2 (by simp))).trans (ho_e))
    have fx59 : V42 (nb) = some (.inr (9, [.ref (nb + 1), .int (z17)])) := (fr47 (nb) (hq_tne ty1 ty20 (by simp)) (hq_tne ty1 (hr_20 hR) (by simp))).trans (ho19)
    have hkx : ∀ x, hk_In nb q x → V42 x = V9 x := fun x7 hx7 => by unfold hk_In at hx7; exact (fr47 x7 (by omega) (by omega)).trans (fr16 x7 (by omega) (by omega))
    have fx60 : V42 (nb + 1) = some (.inl (cs 0, 4000, .inl (u18))) := (fr47 (nb + 1) (hq_tne ty2 ty20 (by simp)) (hq_tne ty2 (hr_20 hR) (by simp))).trans (ho20)
    have hE9 : hk_E cs nb q V42 (nb + 465) q_fk q_fp m_ft m_fa ∧ (z17).toInt = (z48).toInt ∧ (0 ≤ (z48).toInt ∧ (z48).toInt ≤ 4000) := by
      have hfn := sp_feed_n w y1 y3 y5 y7 y9
      rcases hp21 with ⟨g1, g2, g3, g4⟩ | ⟨g1, g2, g3, g4⟩
      · rcases hp52 with ⟨k1, k2, k3, k4⟩ | ⟨k1, k2, k3, k4⟩
        · exact ⟨hE.tape (w := sp_feed w y1 y3 y5 y7 y9) (Or.inr rfl) hkx ⟨_, _, fx59, fx60, g2, by omega, g3⟩ ⟨_, ho51, sp_okb_feed hok (by omega), k3⟩ (sp_okc_feed hoc), by omega, by omega⟩
        · exact absurd g1 k1
      · rcases hp52 with ⟨k1, k2, k3, k4⟩ | ⟨k1, k2, k3, k4⟩
        · exact absurd k1 g1
        · exact ⟨hE.tape (w := w) (Or.inr rfl) hkx ⟨_, _, fx59, fx60, by rw [g2]; exact hz1, hz2, by rw [g3]; exact hz3⟩ ⟨_, ho51, hok, by rw [k3]; exact hz4⟩ hoc, by rw [g2, k2]; exact hzt, by rw [k2]; omega⟩
    obtain ⟨hE9, hzz, hzb⟩ := hE9
    obtain ⟨-, -, ⟨wb9, bk9, rh9, hAR9, hBm9, hgood9, hBx9⟩, hS09, hS19, -⟩ := id hE9
    have hkc : ∀ x, hk_Ic nb q x → V42 x = V9 x := fun x7 hx7 => by unfold hk_Ic at hx7; exact (fr47 x7 (by omega) (by omega)).trans (fr16 x7 (by omega) (by omega))
    have hinv9 : hk_InvX cs G a nb mo q V42 := ⟨hP.1, _, _, _, _, _, _, _, _, _, _, _, _, _, _, _, _, _, _, _, _, _, _, _, _, _, _, _, _, _, _, _, _, _, _, _, fx56, Or.inr ⟨rfl, rfl⟩, by omega, (hq_J.of hBx9 hS19.2.1 hgood9.1), fx57, fx58, by omega, by omega, fx59, ho50, by omega, by omega, by omega, by omega, by omega, by omega, by omega, by omega, by omega, (hm_VQ.of hAR9 hBm9 hgood9.1), (by obtain ⟨fs9, h9⟩ := hst; exact ⟨fs9, ((fr47 (q + 19) (hq_tne (hr_19 hR) ty20 (by simp)) (hq_tne (hr_19 hR) (hr_20 hR) (by simp))).trans (fr16 (q + 19) (hq_tne (hr_19 hR) ty1 (by simp)) (hq_tne (hr_19 hR) ty2 (by simp)))).trans h9⟩), hE9, (hCH.keep hkc)⟩
    exact kk _ _ _ ls hZ hinv9 (lv_sub hl [0, 1, 2, 3] rfl)

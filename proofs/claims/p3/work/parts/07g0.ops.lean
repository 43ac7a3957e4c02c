set_option maxHeartbeats 8000000 in
set_option maxRecDepth 100000 in
theorem hk_c_feed {p : Program} {e : Env} {s : State} {m : MethodId} {below : List Frame} {meth : Method} {c : Code} (l : Launch) (D : va_G) (cs : Nat → ClassId) (B : Nat) (G : hq_G) {b L : Nat} {xs : Nat → Int32} (hx : p.tables.exec = Jvm.exec) (hb : c.code = code) (hml : c.maxLocals = 4) (hown : s.vm.findClass RL = some m.cls) (hts : ∀ w ∈ TBG, w.before #[Value.ref b] s = true) (hX : va_X b L xs s s.heap) (hbl : b < s.heap.size) (hbA : ¬ hp_F B b) (hL : L ≤ 3072) (a nb mo q n : Nat) (hT : hk_Ty G a nb mo q) (i : Int32) (hi0 : 0 ≤ i.toInt) (hi1 : i.toInt + 6 ≤ L) (kk : ∀ (V9 : hp_V) (H9 : Heap) (locs9 : List Loc) (ls : Array Slot), hp_Z D cs B s V9 H9 n locs9 → hk_Inv cs G a nb mo q V9 → lv_has ls 4 [(3, .int i), (2, .ref mo), (1, .ref a), (0, .ref b)] → W p l e room_1 s m #[Value.ref b] below meth c H9 locs9 891 28710 (lw_Z below #[Value.ref b] s) (F0 m 761 ls [])) (V9 : hp_V) (H9 : Heap) (locs9 : List Loc) (ls : Array Slot) (hZ : hp_Z D cs B s V9 H9 n locs9) (hinv : hk_Inv cs G a nb mo q V9) (hl : lv_has ls 4 [(3, .int i), (2, .ref mo), (1, .ref a), (0, .ref b)]) : W p l e room_1 s m #[Value.ref b] below meth c H9 locs9 891 28710 (lw_Z below #[Value.ref b] s) (F0 m 124 ls []) := by
  obtain ⟨ty0, ty1, ty2, ty3, ty4, ty5, ty6, ty7, ty8, ty9, ty10, ty11, ty12, ty13, ty14, ty15, ty16, ty17, ty18, ty19, ty20, hR⟩ := hT
  obtain ⟨hI, ⟨c_fs, c_to, c_sp, ho_a, htold, hfs, hJ⟩, ⟨q_fk, q_fp, q_nx, q_tk, q_st, q_tx, q_ou, ho_p⟩, ⟨e_fd, e_sz, e_bk, e_an, e_mk, ho_e, hef, hes⟩, ⟨p_z, m_tp, m_sz, m_fr, m_bh, m_hd, m_ft, m_fa, m_le, m_fo, m_as, m_fd, m_bc, m_bg, m_bs, m_be, m_b0, m_b1, m_cm, m_hc, ho_n, ho_m, hiv0, hiv1, hiv2, hiv3, hiv4, hiv5, hiv6, hiv7, hzt⟩, hVQ, hst⟩ := hinv
  have hP : hq_P cs G (fun _ => true) V9 V9 := hq_P.rf hI
  have hb_c_fs := hq_rng c_fs
  have hb_p_z := hq_rng p_z
  have hb_e_fd := hq_rng e_fd
  have hb_e_sz := hq_rng e_sz
  have hb_i := hq_rng i
  have hb_m_tp := hq_rng m_tp
  have hb_m_sz := hq_rng m_sz
  have hb_m_fr := hq_rng m_fr
  have hb_m_bh := hq_rng m_bh
  have hb_m_hd := hq_rng m_hd
  have hb_m_ft := hq_rng m_ft
  have hb_m_fa := hq_rng m_fa
  have hb_m_le := hq_rng m_le
  have hb_m_fo := hq_rng m_fo
  have hb_m_as := hq_rng m_as
  have hb_m_fd := hq_rng m_fd
  have hb_m_bc := hq_rng m_bc
  have hb_m_bg := hq_rng m_bg
  have hb_m_bs := hq_rng m_bs
  have hb_m_be := hq_rng m_be
  have hb_m_b0 := hq_rng m_b0
  have hb_m_b1 := hq_rng m_b1
  have hb_m_cm := hq_rng m_cm
  have hb_m_hc := hq_rng m_hc
  rcases htold with ⟨rfl, rfl⟩ | ⟨rfl, rfl⟩
  · refine lv_aload_n hx hb dL_law_124 rfl (lv_at hl 2 rfl) ?_
    refine lv_aload_n hx hb dL_law_125 rfl (lv_at hl 3 rfl) ?_
    refine lv_iload_n hx hb dL_law_126 rfl (lv_at hl 0 rfl) ?_
    refine lv_iconst (v := 1) hx hb dL_law_127 (by decide) ?_
    refine lv_iadd hx hb dL_law_128 ?_
    refine va_sld hx hb hX hbl hbA hZ.2.1 (hk_ix hi0 hi1 hL (by decide) (by decide)) dL_law_129 ?_
    refine lv_topi (fun y1 ey2 => ?_)
    refine lv_aload_n hx hb dL_law_130 rfl (lv_at hl 3 rfl) ?_
    refine lv_iload_n hx hb dL_law_131 rfl (lv_at hl 0 rfl) ?_
    refine lv_iconst (v := 2) hx hb dL_law_132 (by decide) ?_
    refine lv_iadd hx hb dL_law_133 ?_
    refine va_sld hx hb hX hbl hbA hZ.2.1 (hk_ix hi0 hi1 hL (by decide) (by decide)) dL_law_134 ?_
    refine lv_topi (fun y3 ey4 => ?_)
    refine lv_aload_n hx hb dL_law_135 rfl (lv_at hl 3 rfl) ?_
    refine lv_iload_n hx hb dL_law_136 rfl (lv_at hl 0 rfl) ?_
    refine lv_iconst (v := 3) hx hb dL_law_137 (by decide) ?_
    refine lv_iadd hx hb dL_law_138 ?_
    refine va_sld hx hb hX hbl hbA hZ.2.1 (hk_ix hi0 hi1 hL (by decide) (by decide)) dL_law_139 ?_
    refine lv_topi (fun y5 ey6 => ?_)
    refine lv_aload_n hx hb dL_law_140 rfl (lv_at hl 3 rfl) ?_
    refine lv_iload_n hx hb dL_law_141 rfl (lv_at hl 0 rfl) ?_
    refine lv_iconst (v := 4) hx hb dL_law_142 (by decide) ?_
    refine lv_iadd hx hb dL_law_143 ?_
    refine va_sld hx hb hX hbl hbA hZ.2.1 (hk_ix hi0 hi1 hL (by decide) (by decide)) dL_law_144 ?_
    refine lv_topi (fun y7 ey8 => ?_)
    refine lv_aload_n hx hb dL_law_145 rfl (lv_at hl 3 rfl) ?_
    refine lv_iload_n hx hb dL_law_146 rfl (lv_at hl 0 rfl) ?_
    refine lv_iconst (v := 5) hx hb dL_law_147 (by decide) ?_
    refine lv_iadd hx hb dL_law_148 ?_
    refine va_sld hx hb hX hbl hbA hZ.2.1 (hk_ix hi0 hi1 hL (by decide) (by decide)) dL_law_149 ?_
    refine lv_topi (fun y9 ey10 => ?_)
    refine hp_calli (hp_runV (As := [.int (y1), .int (y3), .int (y5), .int (y7), .int (y9)]) (rest := []) hx hb hml hown hts (t_X11_feed_0 l D cs B G  V9 n hP.1  (a) ty0 (y1) (y3) (y5) (y7) (y9) ho_a ty1 ty3 ty5 ty6 ty7 ty16 ty17 ty18 ty19 (by omega) ho_n ty2 (by omega) ) hZ ho_a cv_L_13 rfl rfl ⟨Nat.le_of_ble_eq_true rfl, Nat.le_of_ble_eq_true rfl⟩ rfl hl.1 rfl (Nat.le_of_ble_eq_true rfl) dL_law_150 ⟨(Nat.le_of_ble_eq_true rfl), (Nat.le_of_ble_eq_true rfl)⟩) hZ (fun r14 V11 n12 _ _ hw13 hZ => ?_)
    obtain ⟨rfl, hq15, ho17, ⟨z18, ho19, hi20, hi21⟩, hr16⟩ := hw13
    have hP := hP.trans hq15 (fun _ h => Bool.noConfusion h)
    have b22 := hq_rng z18
    have b23 := hq_rng r14
    refine lv_pop hx hb dL_law_153 rfl ?_
    refine lv_aload_n hx hb dL_law_154 rfl (lv_at hl 1 rfl) ?_
    refine lv_aload_n hx hb dL_law_155 rfl (lv_at hl 3 rfl) ?_
    refine lv_iload_n hx hb dL_law_156 rfl (lv_at hl 0 rfl) ?_
    refine lv_iconst (v := 1) hx hb dL_law_157 (by decide) ?_
    refine lv_iadd hx hb dL_law_158 ?_
    refine va_sld hx hb hX hbl hbA hZ.2.1 (hk_ix hi0 hi1 hL (by decide) (by decide)) dL_law_159 ?_
    refine lv_topi (fun y24 ey25 => ?_)
    have b26 : (y24).toInt = (y1).toInt := by rw [ey25, ey2]
    refine lv_aload_n hx hb dL_law_160 rfl (lv_at hl 3 rfl) ?_
    refine lv_iload_n hx hb dL_law_161 rfl (lv_at hl 0 rfl) ?_
    refine lv_iconst (v := 2) hx hb dL_law_162 (by decide) ?_
    refine lv_iadd hx hb dL_law_163 ?_
    refine va_sld hx hb hX hbl hbA hZ.2.1 (hk_ix hi0 hi1 hL (by decide) (by decide)) dL_law_164 ?_
    refine lv_topi (fun y27 ey28 => ?_)
    have b29 : (y27).toInt = (y3).toInt := by rw [ey28, ey4]
    refine lv_aload_n hx hb dL_law_165 rfl (lv_at hl 3 rfl) ?_
    refine lv_iload_n hx hb dL_law_166 rfl (lv_at hl 0 rfl) ?_
    refine lv_iconst (v := 3) hx hb dL_law_167 (by decide) ?_
    refine lv_iadd hx hb dL_law_168 ?_
    refine va_sld hx hb hX hbl hbA hZ.2.1 (hk_ix hi0 hi1 hL (by decide) (by decide)) dL_law_169 ?_
    refine lv_topi (fun y30 ey31 => ?_)
    have b32 : (y30).toInt = (y5).toInt := by rw [ey31, ey6]
    refine lv_aload_n hx hb dL_law_170 rfl (lv_at hl 3 rfl) ?_
    refine lv_iload_n hx hb dL_law_171 rfl (lv_at hl 0 rfl) ?_
    refine lv_iconst (v := 4) hx hb dL_law_172 (by decide) ?_
    refine lv_iadd hx hb dL_law_173 ?_
    refine va_sld hx hb hX hbl hbA hZ.2.1 (hk_ix hi0 hi1 hL (by decide) (by decide)) dL_law_174 ?_
    refine lv_topi (fun y33 ey34 => ?_)
    have b35 : (y33).toInt = (y7).toInt := by rw [ey34, ey8]
    refine lv_aload_n hx hb dL_law_175 rfl (lv_at hl 3 rfl) ?_
    refine lv_iload_n hx hb dL_law_176 rfl (lv_at hl 0 rfl) ?_
    refine lv_iconst (v := 5) hx hb dL_law_177 (by decide) ?_
    refine lv_iadd hx hb dL_law_178 ?_
    refine va_sld hx hb hX hbl hbA hZ.2.1 (hk_ix hi0 hi1 hL (by decide) (by decide)) dL_law_179 ?_
    refine lv_topi (fun y36 ey37 => ?_)
    have b38 : (y36).toInt = (y9).toInt := by rw [ey37, ey10]
    have fx45 : V11 (mo) = some (.inr (13, hm_o q (m_tp) (m_sz) (m_fr) (m_bh) (m_hd) (m_ft) (m_fa) (m_le) (m_fo) (m_as) (m_fd) (m_bc) (m_bg) (m_bs) (m_be) (m_b0) (m_b1) (m_cm) (m_hc))) := (hq15.2 (mo) _ ty20 rfl).trans (ho_m)
    refine hp_calli (hp_runV (As := [.int (y24), .int (y27), .int (y30), .int (y33), .int (y36)]) (rest := []) hx hb hml hown hts (t_X13_feed l D cs B G  V11 n hP.1 q hR (mo) ty20 (y24) (y27) (y30) (y33) (y36) fx45  (by omega) (by omega) (by omega) (by omega) (by omega) (by omega) (by omega) (by omega) ) hZ fx45 cv_L_17 rfl rfl ⟨Nat.le_of_ble_eq_true rfl, Nat.le_of_ble_eq_true rfl⟩ rfl hl.1 rfl (Nat.le_of_ble_eq_true rfl) dL_law_180 ⟨(Nat.le_of_ble_eq_true rfl), (Nat.le_of_ble_eq_true rfl)⟩) hZ (fun r42 V39 n40 _ _ hw41 hZ => ?_)
    obtain ⟨rfl, hq43, ⟨z46, ho47, hi48, hi49⟩, hr44⟩ := hw41
    have hP := hP.trans hq43 (fun _ h => Bool.noConfusion h)
    have b50 := hq_rng z46
    have b51 := hq_rng r42
    refine lv_pop hx hb dL_law_183 rfl ?_
    refine lv_goto (tgt := 761) hx hb dL_law_184 (by decide) ?_
    have fx52 : V39 (a) = some (.inr (11, [.ref (nb), .ref (nb + 2), .ref (nb + 5), .ref (nb + 46), .ref (nb + 50), .ref (nb + 62), .ref (nb + 87), .int (c_fs), .ref (nb + 88), .ref (nb + 465)])) := (hq43.2 (a) _ ty0 rfl).trans (ho17)
    have fx53 : V39 (nb + 2) = some (.inr (7, [.int (q_fk), .int (q_fp), q_tx, q_ou, .int (q_nx), .int (q_tk), .int (q_st), .ref (nb + 3)])) := (hq43.2 (nb + 2) _ ty3 rfl).trans ((hq15.2 (nb + 2) _ ty3 rfl).trans (ho_p))
    have fx54 : V39 (nb + 50) = some (.inr (1, [.ref (nb + 51), .ref (nb + 52), .int (e_fd), .ref (nb + 53), .ref (nb + 55), .ref (nb + 57), e_bk, e_an, e_mk, .int (e_sz), .ref (nb + 59), .ref (nb + 60), .ref (nb + 61)])) := (hq43.2 (nb + 50) _ ty7 rfl).trans ((hq15.2 (nb + 50) _ ty7 rfl).trans (ho_e))
    have fx55 : V39 (nb) = some (.inr (9, [.ref (nb + 1), .int (z18)])) := (hq43.2 (nb) _ ty1 rfl).trans (ho19)
    have hinv9 : hk_Inv cs G a nb mo q V39 := ⟨hP.1, ⟨_, _, _, fx52, Or.inl ⟨rfl, rfl⟩, by omega, hJ.keep hP.1 ty18 (fun x t hx hg => (hq_lgp hq43 hx hg (fun _ => rfl)).trans (hq_lgp hq15 hx hg (fun _ => rfl)))⟩, ⟨_, _, _, _, _, _, _, fx53⟩, ⟨_, _, _, _, _, fx54, by omega, by omega⟩, ⟨_, _, _, _, _, _, _, _, _, _, _, _, _, _, _, _, _, _, _, _, fx55, ho47, by omega, by omega, by omega, by omega, by omega, by omega, by omega, by omega, by omega⟩, (hVQ.keep hR (fun x t hx hg => (hq43.2 x t hx (by simp [hg])).trans (hq15.2 x t hx (by simp [hg])))), (by obtain ⟨fs9, h9⟩ := hst; exact ⟨fs9, ((hq43.2 _ _ (hr_19 hR) rfl).trans (hq15.2 _ _ (hr_19 hR) rfl)).trans h9⟩)⟩
    exact kk _ _ _ ls hZ hinv9 (lv_sub hl [0, 1, 2, 3] rfl)
  · refine lv_aload_n hx hb dL_law_124 rfl (lv_at hl 2 rfl) ?_
    refine lv_aload_n hx hb dL_law_125 rfl (lv_at hl 3 rfl) ?_
    refine lv_iload_n hx hb dL_law_126 rfl (lv_at hl 0 rfl) ?_
    refine lv_iconst (v := 1) hx hb dL_law_127 (by decide) ?_
    refine lv_iadd hx hb dL_law_128 ?_
    refine va_sld hx hb hX hbl hbA hZ.2.1 (hk_ix hi0 hi1 hL (by decide) (by decide)) dL_law_129 ?_
    refine lv_topi (fun y1 ey2 => ?_)
    refine lv_aload_n hx hb dL_law_130 rfl (lv_at hl 3 rfl) ?_
    refine lv_iload_n hx hb dL_law_131 rfl (lv_at hl 0 rfl) ?_
    refine lv_iconst (v := 2) hx hb dL_law_132 (by decide) ?_
    refine lv_iadd hx hb dL_law_133 ?_
    refine va_sld hx hb hX hbl hbA hZ.2.1 (hk_ix hi0 hi1 hL (by decide) (by decide)) dL_law_134 ?_
    refine lv_topi (fun y3 ey4 => ?_)
    refine lv_aload_n hx hb dL_law_135 rfl (lv_at hl 3 rfl) ?_
    refine lv_iload_n hx hb dL_law_136 rfl (lv_at hl 0 rfl) ?_
    refine lv_iconst (v := 3) hx hb dL_law_137 (by decide) ?_
    refine lv_iadd hx hb dL_law_138 ?_
    refine va_sld hx hb hX hbl hbA hZ.2.1 (hk_ix hi0 hi1 hL (by decide) (by decide)) dL_law_139 ?_
    refine lv_topi (fun y5 ey6 => ?_)
    refine lv_aload_n hx hb dL_law_140 rfl (lv_at hl 3 rfl) ?_
    refine lv_iload_n hx hb dL_law_141 rfl (lv_at hl 0 rfl) ?_
    refine lv_iconst (v := 4) hx hb dL_law_142 (by decide) ?_
    refine lv_iadd hx hb dL_law_143 ?_
    refine va_sld hx hb hX hbl hbA hZ.2.1 (hk_ix hi0 hi1 hL (by decide) (by decide)) dL_law_144 ?_
    refine lv_topi (fun y7 ey8 => ?_)
    refine lv_aload_n hx hb dL_law_145 rfl (lv_at hl 3 rfl) ?_
    refine lv_iload_n hx hb dL_law_146 rfl (lv_at hl 0 rfl) ?_
    refine lv_iconst (v := 5) hx hb dL_law_147 (by decide) ?_
    refine lv_iadd hx hb dL_law_148 ?_
    refine va_sld hx hb hX hbl hbA hZ.2.1 (hk_ix hi0 hi1 hL (by decide) (by decide)) dL_law_149 ?_
    refine lv_topi (fun y9 ey10 => ?_)
    refine hp_calli (hp_runV (As := [.int (y1), .int (y3), .int (y5), .int (y7), .int (y9)]) (rest := []) hx hb hml hown hts (t_X11_feed_1 l D cs B G  V9 n hP.1  (a) ty0 (y1) (y3) (y5) (y7) (y9) ho_a ty1 ty3 ty5 ty6 ty7 ty16 ty17 ty19 ty18 (by omega) ho_n ty2 (by omega) ) hZ ho_a cv_L_13 rfl rfl ⟨Nat.le_of_ble_eq_true rfl, Nat.le_of_ble_eq_true rfl⟩ rfl hl.1 rfl (Nat.le_of_ble_eq_true rfl) dL_law_150 ⟨(Nat.le_of_ble_eq_true rfl), (Nat.le_of_ble_eq_true rfl)⟩) hZ (fun r14 V11 n12 _ _ hw13 hZ => ?_)
    obtain ⟨rfl, hq15, ho17, ⟨z18, ho19, hi20, hi21⟩, hr16⟩ := hw13
    have hP := hP.trans hq15 (fun _ h => Bool.noConfusion h)
    have b22 := hq_rng z18
    have b23 := hq_rng r14
    refine lv_pop hx hb dL_law_153 rfl ?_
    refine lv_aload_n hx hb dL_law_154 rfl (lv_at hl 1 rfl) ?_
    refine lv_aload_n hx hb dL_law_155 rfl (lv_at hl 3 rfl) ?_
    refine lv_iload_n hx hb dL_law_156 rfl (lv_at hl 0 rfl) ?_
    refine lv_iconst (v := 1) hx hb dL_law_157 (by decide) ?_
    refine lv_iadd hx hb dL_law_158 ?_
    refine va_sld hx hb hX hbl hbA hZ.2.1 (hk_ix hi0 hi1 hL (by decide) (by decide)) dL_law_159 ?_
    refine lv_topi (fun y24 ey25 => ?_)
    have b26 : (y24).toInt = (y1).toInt := by rw [ey25, ey2]
    refine lv_aload_n hx hb dL_law_160 rfl (lv_at hl 3 rfl) ?_
    refine lv_iload_n hx hb dL_law_161 rfl (lv_at hl 0 rfl) ?_
    refine lv_iconst (v := 2) hx hb dL_law_162 (by decide) ?_
    refine lv_iadd hx hb dL_law_163 ?_
    refine va_sld hx hb hX hbl hbA hZ.2.1 (hk_ix hi0 hi1 hL (by decide) (by decide)) dL_law_164 ?_
    refine lv_topi (fun y27 ey28 => ?_)
    have b29 : (y27).toInt = (y3).toInt := by rw [ey28, ey4]
    refine lv_aload_n hx hb dL_law_165 rfl (lv_at hl 3 rfl) ?_
    refine lv_iload_n hx hb dL_law_166 rfl (lv_at hl 0 rfl) ?_
    refine lv_iconst (v := 3) hx hb dL_law_167 (by decide) ?_
    refine lv_iadd hx hb dL_law_168 ?_
    refine va_sld hx hb hX hbl hbA hZ.2.1 (hk_ix hi0 hi1 hL (by decide) (by decide)) dL_law_169 ?_
    refine lv_topi (fun y30 ey31 => ?_)
    have b32 : (y30).toInt = (y5).toInt := by rw [ey31, ey6]
    refine lv_aload_n hx hb dL_law_170 rfl (lv_at hl 3 rfl) ?_
    refine lv_iload_n hx hb dL_law_171 rfl (lv_at hl 0 rfl) ?_
    refine lv_iconst (v := 4) hx hb dL_law_172 (by decide) ?_
    refine lv_iadd hx hb dL_law_173 ?_
    refine va_sld hx hb hX hbl hbA hZ.2.1 (hk_ix hi0 hi1 hL (by decide) (by decide)) dL_law_174 ?_
    refine lv_topi (fun y33 ey34 => ?_)
    have b35 : (y33).toInt = (y7).toInt := by rw [ey34, ey8]
    refine lv_aload_n hx hb dL_law_175 rfl (lv_at hl 3 rfl) ?_
    refine lv_iload_n hx hb dL_law_176 rfl (lv_at hl 0 rfl) ?_
    refine lv_iconst (v := 5) hx hb dL_law_177 (by decide) ?_
    refine lv_iadd hx hb dL_law_178 ?_
    refine va_sld hx hb hX hbl hbA hZ.2.1 (hk_ix hi0 hi1 hL (by decide) (by decide)) dL_law_179 ?_
    refine lv_topi (fun y36 ey37 => ?_)
    have b38 : (y36).toInt = (y9).toInt := by rw [ey37, ey10]
    have fx45 : V11 (mo) = some (.inr (13, hm_o q (m_tp) (m_sz) (m_fr) (m_bh) (m_hd) (m_ft) (m_fa) (m_le) (m_fo) (m_as) (m_fd) (m_bc) (m_bg) (m_bs) (m_be) (m_b0) (m_b1) (m_cm) (m_hc))) := (hq15.2 (mo) _ ty20 rfl).trans (ho_m)
    refine hp_calli (hp_runV (As := [.int (y24), .int (y27), .int (y30), .int (y33), .int (y36)]) (rest := []) hx hb hml hown hts (t_X13_feed l D cs B G  V11 n hP.1 q hR (mo) ty20 (y24) (y27) (y30) (y33) (y36) fx45  (by omega) (by omega) (by omega) (by omega) (by omega) (by omega) (by omega) (by omega) ) hZ fx45 cv_L_17 rfl rfl ⟨Nat.le_of_ble_eq_true rfl, Nat.le_of_ble_eq_true rfl⟩ rfl hl.1 rfl (Nat.le_of_ble_eq_true rfl) dL_law_180 ⟨(Nat.le_of_ble_eq_true rfl), (Nat.le_of_ble_eq_true rfl)⟩) hZ (fun r42 V39 n40 _ _ hw41 hZ => ?_)
    obtain ⟨rfl, hq43, ⟨z46, ho47, hi48, hi49⟩, hr44⟩ := hw41
    have hP := hP.trans hq43 (fun _ h => Bool.noConfusion h)
    have b50 := hq_rng z46
    have b51 := hq_rng r42
    refine lv_pop hx hb dL_law_183 rfl ?_
    refine lv_goto (tgt := 761) hx hb dL_law_184 (by decide) ?_
    have fx52 : V39 (a) = some (.inr (11, [.ref (nb), .ref (nb + 2), .ref (nb + 5), .ref (nb + 46), .ref (nb + 50), .ref (nb + 62), .ref (nb + 87), .int (c_fs), .ref (nb + 465), .ref (nb + 88)])) := (hq43.2 (a) _ ty0 rfl).trans (ho17)
    have fx53 : V39 (nb + 2) = some (.inr (7, [.int (q_fk), .int (q_fp), q_tx, q_ou, .int (q_nx), .int (q_tk), .int (q_st), .ref (nb + 3)])) := (hq43.2 (nb + 2) _ ty3 rfl).trans ((hq15.2 (nb + 2) _ ty3 rfl).trans (ho_p))
    have fx54 : V39 (nb + 50) = some (.inr (1, [.ref (nb + 51), .ref (nb + 52), .int (e_fd), .ref (nb + 53), .ref (nb + 55), .ref (nb + 57), e_bk, e_an, e_mk, .int (e_sz), .ref (nb + 59), .ref (nb + 60), .ref (nb + 61)])) := (hq43.2 (nb + 50) _ ty7 rfl).trans ((hq15.2 (nb + 50) _ ty7 rfl).trans (ho_e))
    have fx55 : V39 (nb) = some (.inr (9, [.ref (nb + 1), .int (z18)])) := (hq43.2 (nb) _ ty1 rfl).trans (ho19)
    have hinv9 : hk_Inv cs G a nb mo q V39 := ⟨hP.1, ⟨_, _, _, fx52, Or.inr ⟨rfl, rfl⟩, by omega, hJ.keep hP.1 ty19 (fun x t hx hg => (hq_lgp hq43 hx hg (fun _ => rfl)).trans (hq_lgp hq15 hx hg (fun _ => rfl)))⟩, ⟨_, _, _, _, _, _, _, fx53⟩, ⟨_, _, _, _, _, fx54, by omega, by omega⟩, ⟨_, _, _, _, _, _, _, _, _, _, _, _, _, _, _, _, _, _, _, _, fx55, ho47, by omega, by omega, by omega, by omega, by omega, by omega, by omega, by omega, by omega⟩, (hVQ.keep hR (fun x t hx hg => (hq43.2 x t hx (by simp [hg])).trans (hq15.2 x t hx (by simp [hg])))), (by obtain ⟨fs9, h9⟩ := hst; exact ⟨fs9, ((hq43.2 _ _ (hr_19 hR) rfl).trans (hq15.2 _ _ (hr_19 hR) rfl)).trans h9⟩)⟩
    exact kk _ _ _ ls hZ hinv9 (lv_sub hl [0, 1, 2, 3] rfl)

set_option maxHeartbeats 8000000 in
set_option maxRecDepth 100000 in
theorem hk_c_end {p : Program} {e : Env} {s : State} {m : MethodId} {below : List Frame} {meth : Method} {c : Code} (l : Launch) (D : va_G) (cs : Nat → ClassId) (B : Nat) (G : hq_G) {b L : Nat} {xs : Nat → Int32} (hx : p.tables.exec = Jvm.exec) (hb : c.code = code) (hml : c.maxLocals = 4) (hown : s.vm.findClass RL = some m.cls) (hts : ∀ w ∈ TBG, w.before #[Value.ref b] s = true) (hX : va_X b L xs s s.heap) (hbl : b < s.heap.size) (hbA : ¬ hp_F B b) (hL : L ≤ 3072) (a nb mo q n : Nat) (hT : hk_Ty G a nb mo q) (i : Int32) (hi0 : 0 ≤ i.toInt) (hi1 : i.toInt + 6 ≤ L) (kk : ∀ (V9 : hp_V) (H9 : Heap) (locs9 : List Loc) (ls : Array Slot), hp_Z D cs B s V9 H9 n locs9 → hk_Inv cs G a nb mo q V9 → lv_has ls 4 [(3, .int i), (2, .ref mo), (1, .ref a), (0, .ref b)] → W p l e room_1 s m #[Value.ref b] below meth c H9 locs9 891 28710 (lw_Z below #[Value.ref b] s) (F0 m 761 ls [])) (V9 : hp_V) (H9 : Heap) (locs9 : List Loc) (ls : Array Slot) (hZ : hp_Z D cs B s V9 H9 n locs9) (hinv : hk_Inv cs G a nb mo q V9) (hl : lv_has ls 4 [(3, .int i), (2, .ref mo), (1, .ref a), (0, .ref b)]) : W p l e room_1 s m #[Value.ref b] below meth c H9 locs9 891 28710 (lw_Z below #[Value.ref b] s) (F0 m 187 ls []) := by
  obtain ⟨ty0, ty1, ty2, ty3, ty4, ty5, ty6, ty7, ty8, ty9, ty10, ty11, ty12, ty13, ty14, ty15, ty16, ty17, ty18, ty19, ty20, hR⟩ := hT
  obtain ⟨hI, ⟨c_fs, c_to, c_sp, ho_a, htold, hfs, hJ⟩, ⟨q_fk, q_fp, q_nx, q_tk, q_st, q_tx, q_ou, ho_p⟩, ⟨e_fd, e_sz, e_bk, e_an, e_mk, ho_e, hef, hes⟩, ⟨p_z, m_tp, m_sz, m_fr, m_bh, m_hd, m_ft, m_fa, m_le, m_fo, m_as, m_fd, m_bc, m_bg, m_bs, m_be, m_b0, m_b1, m_cm, m_hc, ho_n, ho_m, hiv0, hiv1, hiv2, hiv3, hiv4, hiv5, hiv6, hiv7, hzt⟩, hVQ, hst⟩ := hinv
  have hP : hq_P cs G (fun _ => true) V9 V9 := hq_P.rf hI
  have hb_c_fs := hq_rng c_fs
  have hb_p_z := hq_rng p_z
  have hb_e_fd := hq_rng e_fd
  have hb_e_sz := hq_rng e_sz
  have hb_i := hq_rng i
  have hb_m_tp := hq_rng m_tp
  have hb_m_sz := hq_rng m_sz
  have hb_m_fr := hq_rng m_fr
  have hb_m_bh := hq_rng m_bh
  have hb_m_hd := hq_rng m_hd
  have hb_m_ft := hq_rng m_ft
  have hb_m_fa := hq_rng m_fa
  have hb_m_le := hq_rng m_le
  have hb_m_fo := hq_rng m_fo
  have hb_m_as := hq_rng m_as
  have hb_m_fd := hq_rng m_fd
  have hb_m_bc := hq_rng m_bc
  have hb_m_bg := hq_rng m_bg
  have hb_m_bs := hq_rng m_bs
  have hb_m_be := hq_rng m_be
  have hb_m_b0 := hq_rng m_b0
  have hb_m_b1 := hq_rng m_b1
  have hb_m_cm := hq_rng m_cm
  have hb_m_hc := hq_rng m_hc
  rcases htold with ⟨rfl, rfl⟩ | ⟨rfl, rfl⟩
  · refine lv_aload_n hx hb dL_law_187 rfl (lv_at hl 2 rfl) ?_
    refine lv_aload_n hx hb dL_law_188 rfl (lv_at hl 3 rfl) ?_
    refine lv_iload_n hx hb dL_law_189 rfl (lv_at hl 0 rfl) ?_
    refine lv_iconst (v := 1) hx hb dL_law_190 (by decide) ?_
    refine lv_iadd hx hb dL_law_191 ?_
    refine va_sld hx hb hX hbl hbA hZ.2.1 (hk_ix hi0 hi1 hL (by decide) (by decide)) dL_law_192 ?_
    refine lv_topi (fun y1 ey2 => ?_)
    refine hp_calli (hp_runV (As := [.int (y1)]) (rest := []) hx hb hml hown hts (t_X11_end_0 l D cs B G  V9 n hP.1  (a) ty0 (y1) ho_a ty1 ty3 ty5 ty6 ty7 ty16 ty17 ty18 ty19 (by omega) ho_n ty2 (by omega) ) hZ ho_a cv_L_18 rfl rfl ⟨Nat.le_of_ble_eq_true rfl, Nat.le_of_ble_eq_true rfl⟩ rfl hl.1 rfl (Nat.le_of_ble_eq_true rfl) dL_law_193 ⟨(Nat.le_of_ble_eq_true rfl), (Nat.le_of_ble_eq_true rfl)⟩) hZ (fun r6 V3 n4 _ _ hw5 hZ => ?_)
    obtain ⟨rfl, hq7, ho9, ⟨z10, ho11, hi12, hi13⟩, hr8⟩ := hw5
    have hP := hP.trans hq7 (fun _ h => Bool.noConfusion h)
    have b14 := hq_rng z10
    have b15 := hq_rng r6
    refine lv_aload_n hx hb dL_law_196 rfl (lv_at hl 1 rfl) ?_
    refine lv_aload_n hx hb dL_law_197 rfl (lv_at hl 3 rfl) ?_
    refine lv_iload_n hx hb dL_law_198 rfl (lv_at hl 0 rfl) ?_
    refine lv_iconst (v := 1) hx hb dL_law_199 (by decide) ?_
    refine lv_iadd hx hb dL_law_200 ?_
    refine va_sld hx hb hX hbl hbA hZ.2.1 (hk_ix hi0 hi1 hL (by decide) (by decide)) dL_law_201 ?_
    refine lv_topi (fun y16 ey17 => ?_)
    have b18 : (y16).toInt = (y1).toInt := by rw [ey17, ey2]
    have fx25 : V3 (mo) = some (.inr (13, hm_o q (m_tp) (m_sz) (m_fr) (m_bh) (m_hd) (m_ft) (m_fa) (m_le) (m_fo) (m_as) (m_fd) (m_bc) (m_bg) (m_bs) (m_be) (m_b0) (m_b1) (m_cm) (m_hc))) := (hq7.2 (mo) _ ty20 rfl).trans (ho_m)
    refine hp_calli (hp_runV (As := [.int (y16)]) (rest := [.int (r6)]) hx hb hml hown hts (t_X13_end l D cs B G  V3 n hP.1 q hR (mo) ty20 (y16) fx25  (by omega) (by omega) (by omega) (by omega) (by omega) (by omega) (by omega) (by omega) ) hZ fx25 cv_L_22 rfl rfl ⟨Nat.le_of_ble_eq_true rfl, Nat.le_of_ble_eq_true rfl⟩ rfl hl.1 rfl (Nat.le_of_ble_eq_true rfl) dL_law_202 ⟨(Nat.le_of_ble_eq_true rfl), (Nat.le_of_ble_eq_true rfl)⟩) hZ (fun r22 V19 n20 _ _ hw21 hZ => ?_)
    obtain ⟨rfl, hq23, ⟨z26, ho27, hi28, hi29⟩, hr24⟩ := hw21
    have hP := hP.trans hq23 (fun _ h => Bool.noConfusion h)
    have b30 := hq_rng z26
    have b31 := hq_rng r22
    refine lv_icmp_eq (tgt := 761) hx hb dL_law_205 (by decide) (fun c32 => ?_) (fun c32 => absurd (show r6 = r22 from Int32.toInt_inj.mp (by omega)) c32)
    have fx33 : V19 (a) = some (.inr (11, [.ref (nb), .ref (nb + 2), .ref (nb + 5), .ref (nb + 46), .ref (nb + 50), .ref (nb + 62), .ref (nb + 87), .int (c_fs), .ref (nb + 88), .ref (nb + 465)])) := (hq23.2 (a) _ ty0 rfl).trans (ho9)
    have fx34 : V19 (nb + 2) = some (.inr (7, [.int (q_fk), .int (q_fp), q_tx, q_ou, .int (q_nx), .int (q_tk), .int (q_st), .ref (nb + 3)])) := (hq23.2 (nb + 2) _ ty3 rfl).trans ((hq7.2 (nb + 2) _ ty3 rfl).trans (ho_p))
    have fx35 : V19 (nb + 50) = some (.inr (1, [.ref (nb + 51), .ref (nb + 52), .int (e_fd), .ref (nb + 53), .ref (nb + 55), .ref (nb + 57), e_bk, e_an, e_mk, .int (e_sz), .ref (nb + 59), .ref (nb + 60), .ref (nb + 61)])) := (hq23.2 (nb + 50) _ ty7 rfl).trans ((hq7.2 (nb + 50) _ ty7 rfl).trans (ho_e))
    have fx36 : V19 (nb) = some (.inr (9, [.ref (nb + 1), .int (z10)])) := (hq23.2 (nb) _ ty1 rfl).trans (ho11)
    have hinv9 : hk_Inv cs G a nb mo q V19 := ⟨hP.1, ⟨_, _, _, fx33, Or.inl ⟨rfl, rfl⟩, by omega, hJ.keep hP.1 ty18 (fun x t hx hg => (hq_lgp hq23 hx hg (fun _ => rfl)).trans (hq_lgp hq7 hx hg (fun _ => rfl)))⟩, ⟨_, _, _, _, _, _, _, fx34⟩, ⟨_, _, _, _, _, fx35, by omega, by omega⟩, ⟨_, _, _, _, _, _, _, _, _, _, _, _, _, _, _, _, _, _, _, _, fx36, ho27, by omega, by omega, by omega, by omega, by omega, by omega, by omega, by omega, by omega⟩, (hVQ.keep hR (fun x t hx hg => (hq23.2 x t hx (by simp [hg])).trans (hq7.2 x t hx (by simp [hg])))), (by obtain ⟨fs9, h9⟩ := hst; exact ⟨fs9, ((hq23.2 _ _ (hr_19 hR) rfl).trans (hq7.2 _ _ (hr_19 hR) rfl)).trans h9⟩)⟩
    exact kk _ _ _ ls hZ hinv9 (lv_sub hl [0, 1, 2, 3] rfl)
  · refine lv_aload_n hx hb dL_law_187 rfl (lv_at hl 2 rfl) ?_
    refine lv_aload_n hx hb dL_law_188 rfl (lv_at hl 3 rfl) ?_
    refine lv_iload_n hx hb dL_law_189 rfl (lv_at hl 0 rfl) ?_
    refine lv_iconst (v := 1) hx hb dL_law_190 (by decide) ?_
    refine lv_iadd hx hb dL_law_191 ?_
    refine va_sld hx hb hX hbl hbA hZ.2.1 (hk_ix hi0 hi1 hL (by decide) (by decide)) dL_law_192 ?_
    refine lv_topi (fun y1 ey2 => ?_)
    refine hp_calli (hp_runV (As := [.int (y1)]) (rest := []) hx hb hml hown hts (t_X11_end_1 l D cs B G  V9 n hP.1  (a) ty0 (y1) ho_a ty1 ty3 ty5 ty6 ty7 ty16 ty17 ty19 ty18 (by omega) ho_n ty2 (by omega) ) hZ ho_a cv_L_18 rfl rfl ⟨Nat.le_of_ble_eq_true rfl, Nat.le_of_ble_eq_true rfl⟩ rfl hl.1 rfl (Nat.le_of_ble_eq_true rfl) dL_law_193 ⟨(Nat.le_of_ble_eq_true rfl), (Nat.le_of_ble_eq_true rfl)⟩) hZ (fun r6 V3 n4 _ _ hw5 hZ => ?_)
    obtain ⟨rfl, hq7, ho9, ⟨z10, ho11, hi12, hi13⟩, hr8⟩ := hw5
    have hP := hP.trans hq7 (fun _ h => Bool.noConfusion h)
    have b14 := hq_rng z10
    have b15 := hq_rng r6
    refine lv_aload_n hx hb dL_law_196 rfl (lv_at hl 1 rfl) ?_
    refine lv_aload_n hx hb dL_law_197 rfl (lv_at hl 3 rfl) ?_
    refine lv_iload_n hx hb dL_law_198 rfl (lv_at hl 0 rfl) ?_
    refine lv_iconst (v := 1) hx hb dL_law_199 (by decide) ?_
    refine lv_iadd hx hb dL_law_200 ?_
    refine va_sld hx hb hX hbl hbA hZ.2.1 (hk_ix hi0 hi1 hL (by decide) (by decide)) dL_law_201 ?_
    refine lv_topi (fun y16 ey17 => ?_)
    have b18 : (y16).toInt = (y1).toInt := by rw [ey17, ey2]
    have fx25 : V3 (mo) = some (.inr (13, hm_o q (m_tp) (m_sz) (m_fr) (m_bh) (m_hd) (m_ft) (m_fa) (m_le) (m_fo) (m_as) (m_fd) (m_bc) (m_bg) (m_bs) (m_be) (m_b0) (m_b1) (m_cm) (m_hc))) := (hq7.2 (mo) _ ty20 rfl).trans (ho_m)
    refine hp_calli (hp_runV (As := [.int (y16)]) (rest := [.int (r6)]) hx hb hml hown hts (t_X13_end l D cs B G  V3 n hP.1 q hR (mo) ty20 (y16) fx25  (by omega) (by omega) (by omega) (by omega) (by omega) (by omega) (by omega) (by omega) ) hZ fx25 cv_L_22 rfl rfl ⟨Nat.le_of_ble_eq_true rfl, Nat.le_of_ble_eq_true rfl⟩ rfl hl.1 rfl (Nat.le_of_ble_eq_true rfl) dL_law_202 ⟨(Nat.le_of_ble_eq_true rfl), (Nat.le_of_ble_eq_true rfl)⟩) hZ (fun r22 V19 n20 _ _ hw21 hZ => ?_)
    obtain ⟨rfl, hq23, ⟨z26, ho27, hi28, hi29⟩, hr24⟩ := hw21
    have hP := hP.trans hq23 (fun _ h => Bool.noConfusion h)
    have b30 := hq_rng z26
    have b31 := hq_rng r22
    refine lv_icmp_eq (tgt := 761) hx hb dL_law_205 (by decide) (fun c32 => ?_) (fun c32 => absurd (show r6 = r22 from Int32.toInt_inj.mp (by omega)) c32)
    have fx33 : V19 (a) = some (.inr (11, [.ref (nb), .ref (nb + 2), .ref (nb + 5), .ref (nb + 46), .ref (nb + 50), .ref (nb + 62), .ref (nb + 87), .int (c_fs), .ref (nb + 465), .ref (nb + 88)])) := (hq23.2 (a) _ ty0 rfl).trans (ho9)
    have fx34 : V19 (nb + 2) = some (.inr (7, [.int (q_fk), .int (q_fp), q_tx, q_ou, .int (q_nx), .int (q_tk), .int (q_st), .ref (nb + 3)])) := (hq23.2 (nb + 2) _ ty3 rfl).trans ((hq7.2 (nb + 2) _ ty3 rfl).trans (ho_p))
    have fx35 : V19 (nb + 50) = some (.inr (1, [.ref (nb + 51), .ref (nb + 52), .int (e_fd), .ref (nb + 53), .ref (nb + 55), .ref (nb + 57), e_bk, e_an, e_mk, .int (e_sz), .ref (nb + 59), .ref (nb + 60), .ref (nb + 61)])) := (hq23.2 (nb + 50) _ ty7 rfl).trans ((hq7.2 (nb + 50) _ ty7 rfl).trans (ho_e))
    have fx36 : V19 (nb) = some (.inr (9, [.ref (nb + 1), .int (z10)])) := (hq23.2 (nb) _ ty1 rfl).trans (ho11)
    have hinv9 : hk_Inv cs G a nb mo q V19 := ⟨hP.1, ⟨_, _, _, fx33, Or.inr ⟨rfl, rfl⟩, by omega, hJ.keep hP.1 ty19 (fun x t hx hg => (hq_lgp hq23 hx hg (fun _ => rfl)).trans (hq_lgp hq7 hx hg (fun _ => rfl)))⟩, ⟨_, _, _, _, _, _, _, fx34⟩, ⟨_, _, _, _, _, fx35, by omega, by omega⟩, ⟨_, _, _, _, _, _, _, _, _, _, _, _, _, _, _, _, _, _, _, _, fx36, ho27, by omega, by omega, by omega, by omega, by omega, by omega, by omega, by omega, by omega⟩, (hVQ.keep hR (fun x t hx hg => (hq23.2 x t hx (by simp [hg])).trans (hq7.2 x t hx (by simp [hg])))), (by obtain ⟨fs9, h9⟩ := hst; exact ⟨fs9, ((hq23.2 _ _ (hr_19 hR) rfl).trans (hq7.2 _ _ (hr_19 hR) rfl)).trans h9⟩)⟩
    exact kk _ _ _ ls hZ hinv9 (lv_sub hl [0, 1, 2, 3] rfl)

set_option maxHeartbeats 8000000 in
set_option maxRecDepth 100000 in
theorem hk_c_book {p : Program} {e : Env} {s : State} {m : MethodId} {below : List Frame} {meth : Method} {c : Code} (l : Launch) (D : va_G) (cs : Nat → ClassId) (B : Nat) (G : hq_G) {b L : Nat} {xs : Nat → Int32} (hx : p.tables.exec = Jvm.exec) (hb : c.code = code) (hml : c.maxLocals = 4) (hown : s.vm.findClass RL = some m.cls) (hts : ∀ w ∈ TBG, w.before #[Value.ref b] s = true) (hX : va_X b L xs s s.heap) (hbl : b < s.heap.size) (hbA : ¬ hp_F B b) (hL : L ≤ 3072) (a nb mo q n : Nat) (hT : hk_Ty G a nb mo q) (i : Int32) (hi0 : 0 ≤ i.toInt) (hi1 : i.toInt + 6 ≤ L) (kk : ∀ (V9 : hp_V) (H9 : Heap) (locs9 : List Loc) (ls : Array Slot), hp_Z D cs B s V9 H9 n locs9 → hk_Inv cs G a nb mo q V9 → lv_has ls 4 [(3, .int i), (2, .ref mo), (1, .ref a), (0, .ref b)] → W p l e room_1 s m #[Value.ref b] below meth c H9 locs9 891 28710 (lw_Z below #[Value.ref b] s) (F0 m 761 ls [])) (V9 : hp_V) (H9 : Heap) (locs9 : List Loc) (ls : Array Slot) (hZ : hp_Z D cs B s V9 H9 n locs9) (hinv : hk_Inv cs G a nb mo q V9) (hl : lv_has ls 4 [(3, .int i), (2, .ref mo), (1, .ref a), (0, .ref b)]) : W p l e room_1 s m #[Value.ref b] below meth c H9 locs9 891 28710 (lw_Z below #[Value.ref b] s) (F0 m 210 ls []) := by
  obtain ⟨ty0, ty1, ty2, ty3, ty4, ty5, ty6, ty7, ty8, ty9, ty10, ty11, ty12, ty13, ty14, ty15, ty16, ty17, ty18, ty19, ty20, hR⟩ := hT
  obtain ⟨hI, ⟨c_fs, c_to, c_sp, ho_a, htold, hfs, hJ⟩, ⟨q_fk, q_fp, q_nx, q_tk, q_st, q_tx, q_ou, ho_p⟩, ⟨e_fd, e_sz, e_bk, e_an, e_mk, ho_e, hef, hes⟩, ⟨p_z, m_tp, m_sz, m_fr, m_bh, m_hd, m_ft, m_fa, m_le, m_fo, m_as, m_fd, m_bc, m_bg, m_bs, m_be, m_b0, m_b1, m_cm, m_hc, ho_n, ho_m, hiv0, hiv1, hiv2, hiv3, hiv4, hiv5, hiv6, hiv7, hzt⟩, hVQ, hst⟩ := hinv
  have hP : hq_P cs G (fun _ => true) V9 V9 := hq_P.rf hI
  have hb_c_fs := hq_rng c_fs
  have hb_p_z := hq_rng p_z
  have hb_e_fd := hq_rng e_fd
  have hb_e_sz := hq_rng e_sz
  have hb_i := hq_rng i
  have hb_m_tp := hq_rng m_tp
  have hb_m_sz := hq_rng m_sz
  have hb_m_fr := hq_rng m_fr
  have hb_m_bh := hq_rng m_bh
  have hb_m_hd := hq_rng m_hd
  have hb_m_ft := hq_rng m_ft
  have hb_m_fa := hq_rng m_fa
  have hb_m_le := hq_rng m_le
  have hb_m_fo := hq_rng m_fo
  have hb_m_as := hq_rng m_as
  have hb_m_fd := hq_rng m_fd
  have hb_m_bc := hq_rng m_bc
  have hb_m_bg := hq_rng m_bg
  have hb_m_bs := hq_rng m_bs
  have hb_m_be := hq_rng m_be
  have hb_m_b0 := hq_rng m_b0
  have hb_m_b1 := hq_rng m_b1
  have hb_m_cm := hq_rng m_cm
  have hb_m_hc := hq_rng m_hc
  rcases htold with ⟨rfl, rfl⟩ | ⟨rfl, rfl⟩
  · refine lv_aload_n hx hb dL_law_210 rfl (lv_at hl 2 rfl) ?_
    refine hp_calli (hp_runV (As := []) (rest := []) hx hb hml hown hts (t_X11_book_0 l D cs B G  V9 n hP.1  (a) ty0 ho_a ty1 ty3 ty5 ty6 ty7 ty16 ty17 (by omega) ho_n ty2 (by omega) ho_p ty4 ho_e ty8 ty9 ty10 ty11 ty12 ty13 ty14 ty15 (by omega) (by omega) ty18 ty19 hJ) hZ ho_a cv_L_23 rfl rfl ⟨Nat.le_of_ble_eq_true rfl, Nat.le_of_ble_eq_true rfl⟩ rfl hl.1 rfl (Nat.le_of_ble_eq_true rfl) dL_law_211 ⟨(Nat.le_of_ble_eq_true rfl), (Nat.le_of_ble_eq_true rfl)⟩) hZ (fun r4 V1 n2 _ _ hw3 hZ => ?_)
    obtain ⟨rfl, hq5, ⟨z7, u8, u9, ho10, hi11, hi12⟩, ⟨z13, ho14, hi15, hi16⟩, ⟨z17, z18, v19, v20, z21, z22, z23, ho24⟩, ⟨z25, ho26, hi27⟩, hr6⟩ := hw3
    have hP := hP.trans hq5 (fun _ h => Bool.noConfusion h)
    have b28 := hq_rng z7
    have b29 := hq_rng z13
    have b30 := hq_rng z17
    have b31 := hq_rng z18
    have b32 := hq_rng z21
    have b33 := hq_rng z22
    have b34 := hq_rng z23
    have b35 := hq_rng z25
    have b36 := hq_rng r4
    refine lv_pop hx hb dL_law_214 rfl ?_
    refine lv_aload_n hx hb dL_law_215 rfl (lv_at hl 1 rfl) ?_
    have hst9 : ∃ fs, V1 (q + 19) = some (.inr (12, fs)) := by obtain ⟨fs9, h9⟩ := hst; exact ⟨fs9, (hq5.2 _ _ (hr_19 hR) rfl).trans h9⟩
    have fx43 : V1 (mo) = some (.inr (13, hm_o q (m_tp) (m_sz) (m_fr) (m_bh) (m_hd) (m_ft) (m_fa) (m_le) (m_fo) (m_as) (m_fd) (m_bc) (m_bg) (m_bs) (m_be) (m_b0) (m_b1) (m_cm) (m_hc))) := (hq5.2 (mo) _ ty20 rfl).trans (ho_m)
    refine hp_calli (hp_runVW (As := []) (rest := []) hx hb hml hown hts (t_X13_book l D cs B G  V1 n hP.1 q hR (mo) ty20 fx43  (by omega) (by omega) (by omega) (by omega) (by omega) (by omega) (by omega) (by omega) (hVQ.keep hR (fun x t hx hg => hq5.2 x t hx (by simp [hg]))) hst9) hZ fx43 cv_L_27 rfl rfl ⟨Nat.le_of_ble_eq_true rfl, Nat.le_of_ble_eq_true rfl⟩ rfl hl.1 rfl (Nat.le_of_ble_eq_true rfl) dL_law_216 ⟨(Nat.le_of_ble_eq_true rfl), (Nat.le_of_ble_eq_true rfl)⟩) hZ (fun r40 V37 n38 _ _ hw39 hZ => ?_)
    obtain ⟨rfl, hq41, ⟨z44, z45, z46, z47, z48, z49, z50, z51, z52, ho53, hi54, hi55, hi56, hi57, hi58⟩, hr42⟩ := hw39
    have hP := hP.trans hq41 (fun _ h => Bool.noConfusion h)
    have b59 := hq_rng z44
    have b60 := hq_rng z45
    have b61 := hq_rng z46
    have b62 := hq_rng z47
    have b63 := hq_rng z48
    have b64 := hq_rng z49
    have b65 := hq_rng z50
    have b66 := hq_rng z51
    have b67 := hq_rng z52
    have b68 := hq_rng r40
    refine lv_pop hx hb dL_law_219 rfl ?_
    refine lv_goto (tgt := 761) hx hb dL_law_220 (by decide) ?_
    have fx69 : V37 (a) = some (.inr (11, [.ref (nb), .ref (nb + 2), .ref (nb + 5), .ref (nb + 46), .ref (nb + 50), .ref (nb + 62), .ref (nb + 87), .int (z7), .ref (u8), .ref (u9)])) := (hq41.2 (a) _ ty0 rfl).trans (ho10)
    have fx70 : V37 (nb + 2) = some (.inr (7, [.int (z17), .int (z18), v19, v20, .int (z21), .int (z22), .int (z23), .ref (nb + 3)])) := (hq41.2 (nb + 2) _ ty3 rfl).trans (ho24)
    have fx71 : V37 (nb + 50) = some (.inr (1, [.ref (nb + 51), .ref (nb + 52), .int (e_fd), .ref (nb + 53), .ref (nb + 55), .ref (nb + 57), e_bk, e_an, e_mk, .int (z25), .ref (nb + 59), .ref (nb + 60), .ref (nb + 61)])) := (hq41.2 (nb + 50) _ ty7 rfl).trans (ho26)
    have fx72 : V37 (nb) = some (.inr (9, [.ref (nb + 1), .int (z13)])) := (hq41.2 (nb) _ ty1 rfl).trans (ho14)
    have hinv9 : hk_Inv cs G a nb mo q V37 := ⟨hP.1, (by rcases hi12 with ⟨h6, h7, h8⟩ | ⟨h6, h7, h8⟩; (· exact ⟨_, _, _, fx69, Or.inl ⟨h6, h7⟩, by omega, by rw [h6]; exact (h8.keep hP.1 ty18 (fun x t hx hg => hq_lgp hq41 hx hg (fun _ => rfl)))⟩); (· exact ⟨_, _, _, fx69, Or.inr ⟨h6, h7⟩, by omega, by rw [h6]; exact (h8.keep hP.1 ty19 (fun x t hx hg => hq_lgp hq41 hx hg (fun _ => rfl)))⟩)), ⟨_, _, _, _, _, _, _, fx70⟩, ⟨_, _, _, _, _, fx71, by omega, by omega⟩, ⟨_, _, _, _, _, _, _, _, _, _, _, _, _, _, _, _, _, _, _, _, fx72, ho53, by omega, by omega, by omega, by omega, by omega, by omega, by omega, by omega, by omega⟩, hr42, (by obtain ⟨fs9, h9⟩ := hst; exact ⟨fs9, ((hq41.2 _ _ (hr_19 hR) rfl).trans (hq5.2 _ _ (hr_19 hR) rfl)).trans h9⟩)⟩
    exact kk _ _ _ ls hZ hinv9 (lv_sub hl [0, 1, 2, 3] rfl)
  · refine lv_aload_n hx hb dL_law_210 rfl (lv_at hl 2 rfl) ?_
    refine hp_calli (hp_runV (As := []) (rest := []) hx hb hml hown hts (t_X11_book_1 l D cs B G  V9 n hP.1  (a) ty0 ho_a ty1 ty3 ty5 ty6 ty7 ty16 ty17 (by omega) ho_n ty2 (by omega) ho_p ty4 ho_e ty8 ty9 ty10 ty11 ty12 ty13 ty14 ty15 (by omega) (by omega) ty19 ty18 hJ) hZ ho_a cv_L_23 rfl rfl ⟨Nat.le_of_ble_eq_true rfl, Nat.le_of_ble_eq_true rfl⟩ rfl hl.1 rfl (Nat.le_of_ble_eq_true rfl) dL_law_211 ⟨(Nat.le_of_ble_eq_true rfl), (Nat.le_of_ble_eq_true rfl)⟩) hZ (fun r4 V1 n2 _ _ hw3 hZ => ?_)
    obtain ⟨rfl, hq5, ⟨z7, u8, u9, ho10, hi11, hi12⟩, ⟨z13, ho14, hi15, hi16⟩, ⟨z17, z18, v19, v20, z21, z22, z23, ho24⟩, ⟨z25, ho26, hi27⟩, hr6⟩ := hw3
    have hP := hP.trans hq5 (fun _ h => Bool.noConfusion h)
    have b28 := hq_rng z7
    have b29 := hq_rng z13
    have b30 := hq_rng z17
    have b31 := hq_rng z18
    have b32 := hq_rng z21
    have b33 := hq_rng z22
    have b34 := hq_rng z23
    have b35 := hq_rng z25
    have b36 := hq_rng r4
    refine lv_pop hx hb dL_law_214 rfl ?_
    refine lv_aload_n hx hb dL_law_215 rfl (lv_at hl 1 rfl) ?_
    have hst9 : ∃ fs, V1 (q + 19) = some (.inr (12, fs)) := by obtain ⟨fs9, h9⟩ := hst; exact ⟨fs9, (hq5.2 _ _ (hr_19 hR) rfl).trans h9⟩
    have fx43 : V1 (mo) = some (.inr (13, hm_o q (m_tp) (m_sz) (m_fr) (m_bh) (m_hd) (m_ft) (m_fa) (m_le) (m_fo) (m_as) (m_fd) (m_bc) (m_bg) (m_bs) (m_be) (m_b0) (m_b1) (m_cm) (m_hc))) := (hq5.2 (mo) _ ty20 rfl).trans (ho_m)
    refine hp_calli (hp_runVW (As := []) (rest := []) hx hb hml hown hts (t_X13_book l D cs B G  V1 n hP.1 q hR (mo) ty20 fx43  (by omega) (by omega) (by omega) (by omega) (by omega) (by omega) (by omega) (by omega) (hVQ.keep hR (fun x t hx hg => hq5.2 x t hx (by simp [hg]))) hst9) hZ fx43 cv_L_27 rfl rfl ⟨Nat.le_of_ble_eq_true rfl, Nat.le_of_ble_eq_true rfl⟩ rfl hl.1 rfl (Nat.le_of_ble_eq_true rfl) dL_law_216 ⟨(Nat.le_of_ble_eq_true rfl), (Nat.le_of_ble_eq_true rfl)⟩) hZ (fun r40 V37 n38 _ _ hw39 hZ => ?_)
    obtain ⟨rfl, hq41, ⟨z44, z45, z46, z47, z48, z49, z50, z51, z52, ho53, hi54, hi55, hi56, hi57, hi58⟩, hr42⟩ := hw39
    have hP := hP.trans hq41 (fun _ h => Bool.noConfusion h)
    have b59 := hq_rng z44
    have b60 := hq_rng z45
    have b61 := hq_rng z46
    have b62 := hq_rng z47
    have b63 := hq_rng z48
    have b64 := hq_rng z49
    have b65 := hq_rng z50
    have b66 := hq_rng z51
    have b67 := hq_rng z52
    have b68 := hq_rng r40
    refine lv_pop hx hb dL_law_219 rfl ?_
    refine lv_goto (tgt := 761) hx hb dL_law_220 (by decide) ?_
    have fx69 : V37 (a) = some (.inr (11, [.ref (nb), .ref (nb + 2), .ref (nb + 5), .ref (nb + 46), .ref (nb + 50), .ref (nb + 62), .ref (nb + 87), .int (z7), .ref (u8), .ref (u9)])) := (hq41.2 (a) _ ty0 rfl).trans (ho10)
    have fx70 : V37 (nb + 2) = some (.inr (7, [.int (z17), .int (z18), v19, v20, .int (z21), .int (z22), .int (z23), .ref (nb + 3)])) := (hq41.2 (nb + 2) _ ty3 rfl).trans (ho24)
    have fx71 : V37 (nb + 50) = some (.inr (1, [.ref (nb + 51), .ref (nb + 52), .int (e_fd), .ref (nb + 53), .ref (nb + 55), .ref (nb + 57), e_bk, e_an, e_mk, .int (z25), .ref (nb + 59), .ref (nb + 60), .ref (nb + 61)])) := (hq41.2 (nb + 50) _ ty7 rfl).trans (ho26)
    have fx72 : V37 (nb) = some (.inr (9, [.ref (nb + 1), .int (z13)])) := (hq41.2 (nb) _ ty1 rfl).trans (ho14)
    have hinv9 : hk_Inv cs G a nb mo q V37 := ⟨hP.1, (by rcases hi12 with ⟨h6, h7, h8⟩ | ⟨h6, h7, h8⟩; (· exact ⟨_, _, _, fx69, Or.inr ⟨h6, h7⟩, by omega, by rw [h6]; exact (h8.keep hP.1 ty19 (fun x t hx hg => hq_lgp hq41 hx hg (fun _ => rfl)))⟩); (· exact ⟨_, _, _, fx69, Or.inl ⟨h6, h7⟩, by omega, by rw [h6]; exact (h8.keep hP.1 ty18 (fun x t hx hg => hq_lgp hq41 hx hg (fun _ => rfl)))⟩)), ⟨_, _, _, _, _, _, _, fx70⟩, ⟨_, _, _, _, _, fx71, by omega, by omega⟩, ⟨_, _, _, _, _, _, _, _, _, _, _, _, _, _, _, _, _, _, _, _, fx72, ho53, by omega, by omega, by omega, by omega, by omega, by omega, by omega, by omega, by omega⟩, hr42, (by obtain ⟨fs9, h9⟩ := hst; exact ⟨fs9, ((hq41.2 _ _ (hr_19 hR) rfl).trans (hq5.2 _ _ (hr_19 hR) rfl)).trans h9⟩)⟩
    exact kk _ _ _ ls hZ hinv9 (lv_sub hl [0, 1, 2, 3] rfl)

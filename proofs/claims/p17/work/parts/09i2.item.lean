set_option maxHeartbeats 4000000 in
set_option maxRecDepth 100000 in
theorem y_readItem (l : Launch) (D : va_G) (cs : Nat → ClassId) (B : Nat) (G : hq_G) (V : hp_V) (n : Nat) (hI : hq_I cs G V) (q : Nat) (mo : Nat) (w : sp_W) (rh : hm_Rh) (j : Nat) (cl : List Nat) (vn : List Nat) (vc : List Int) (lz : List sp_L) (m_tp : Int32) (m_sz : Int32) (m_fr : Int32) (m_bh : Int32) (m_hd : Int32) (m_ft : Int32) (m_fa : Int32) (m_le : Int32) (m_fo : Int32) (m_as : Int32) (m_fd : Int32) (m_bc : Int32) (m_bg : Int32) (m_bs : Int32) (m_be : Int32) (m_b0 : Int32) (m_b1 : Int32) (m_cm : Int32) (m_hc : Int32) (hc0 : V (mo) = some (.inr (13, hm_o q (m_tp) (m_sz) (m_fr) (m_bh) (m_hd) (m_ft) (m_fa) (m_le) (m_fo) (m_as) (m_fd) (m_bc) (m_bg) (m_bs) (m_be) (m_b0) (m_b1) (m_cm) (m_hc)))) (hp0 : hm_TP cs V q w) (hp1 : hm_AR cs V q rh) (hR : hq_RT G q) (hmo : G mo = some (24, 0, 0, 0)) (hmq : mo < q) (hsz : m_sz.toInt = w.2) (hA : hm_A w j m_fr m_bh m_hd) (hDR : hm_DR rh w (cl, vn, vc, lz)) : hq_M l yX13_readItem cX13_readItem 3 none ({ frames := 11, cells := 0, slots := 0, locals := 234 }) D cs B V n [.ref (mo)] (hq_QX D cs B (fun v V' n' => v = none ∧ n = n' ∧ hq_P cs G (fun _ => true) V V' ∧ (∀ x, x ≠ mo → (x < q ∨ q + 19 ≤ x) → V' x = V x) ∧ (∃ m_fr1 : Int32, ∃ m_bh1 : Int32, ∃ m_hd1 : Int32, ∃ rh1 : hm_Rh, V' (mo) = some (.inr (13, hm_o q (m_tp) (m_sz) (m_fr1) (m_bh1) (m_hd1) (m_ft) (m_fa) (m_le) (m_fo) (m_as) (m_fd) (m_bc) (m_bg) (m_bs) (m_be) (m_b0) (m_b1) (m_cm) (m_hc))) ∧ ((sp_item w (cl, vn, vc, lz) j).1 = 0 ∧ hm_A w (sp_item w (cl, vn, vc, lz) j).2.1 m_fr1 m_bh1 m_hd1 ∧ hm_DR rh1 w (sp_item w (cl, vn, vc, lz) j).2.2) ∧ (hm_AR cs V' q rh1) ∧ (hm_H rh rh1))) (fun x V' n' => x = q + 19 ∧ n = n' ∧ hq_P cs G (fun _ => true) V V' ∧ (∀ x, x ≠ mo → (x < q ∨ q + 19 ≤ x) → V' x = V x) ∧ (∃ m_fr1 : Int32, ∃ m_bh1 : Int32, ∃ m_hd1 : Int32, ∃ m_ft1 : Int32, ∃ m_fa1 : Int32, ∃ rh1 : hm_Rh, V' (mo) = some (.inr (13, hm_o q (m_tp) (m_sz) (m_fr1) (m_bh1) (m_hd1) (m_ft1) (m_fa1) (m_le) (m_fo) (m_as) (m_fd) (m_bc) (m_bg) (m_bs) (m_be) (m_b0) (m_b1) (m_cm) (m_hc))) ∧ (hx_F w (sp_item w (cl, vn, vc, lz) j).1 (sp_item w (cl, vn, vc, lz) j).2.1 m_ft1 m_fa1) ∧ (hm_AR cs V' q rh1) ∧ (hm_H rh rh1)))) 0 0 := by
  refine hq_walk (R0 := RX13) (by decide) rfl ?_ (Nat.le_of_ble_eq_true rfl)
  intro p e s m below meth c ls hx hb hr hts hown hlocks hin hml hnx hZ hl
  have hP : hq_P cs G (fun _ => true) V V := hq_P.rf hI
  have hl : lv_has ls 3 [(0, .ref (mo))] := hl
  have hb_m_tp := hq_rng m_tp
  have hb_m_sz := hq_rng m_sz
  have hb_m_fr := hq_rng m_fr
  have hb_m_bh := hq_rng m_bh
  have hb_m_hd := hq_rng m_hd
  have hb_m_ft := hq_rng m_ft
  have hb_m_fa := hq_rng m_fa
  have hb_m_le := hq_rng m_le
  have hb_m_fo := hq_rng m_fo
  have hb_m_as := hq_rng m_as
  have hb_m_fd := hq_rng m_fd
  have hb_m_bc := hq_rng m_bc
  have hb_m_bg := hq_rng m_bg
  have hb_m_bs := hq_rng m_bs
  have hb_m_be := hq_rng m_be
  have hb_m_b0 := hq_rng m_b0
  have hb_m_b1 := hq_rng m_b1
  have hb_m_cm := hq_rng m_cm
  have hb_m_hc := hq_rng m_hc
  obtain ⟨b1, b2, b3, -⟩ := id hA
  obtain ⟨tg, htg, hok, hz3⟩ := id hp0
  have hz2 := hok.1
  have hH0 : hm_H rh rh := hm_H.rf
  obtain ⟨⟨hcc, hcv, hcl, hVN, ⟨hvl, hVC⟩, hLL⟩, hCN⟩ := id hDR
  have hVN : hm_NL rh 8 4 30 30 w vn := hVN
  have hLL : hm_LL rh 60 w lz := hLL
  have hCN : hm_NL rh 7 3 6 6 w cl := hCN
  have hcc : (rh 0 1).toInt = (cl.length : Int) := hcc
  have hcv : (rh 1 1).toInt = (vn.length : Int) := hcv
  have hcl : (rh 2 1).toInt = (lz.length : Int) := hcl
  have hll9 := hLL.1
  have hlc9 := hCN.1
  have hlv9 := hVN.1
  have htk0 := sp_tok (w := w) (j := j) hA.1
  refine lv_aload_n hx hb dX13_readItem_0 rfl (lv_at hl 0 rfl) ?_
  refine va_ldcS (tx := (hp_so.getD 1 ("", 0, "")).2.2) (q := cs (100 + 1)) hx hb hown (hZ.2.2.2.2.2.2.2.2.2.2 1 (by decide)) dX13_readItem_1 ?_
  refine hp_calli (hp_runV (As := [.ref (cs (100 + 1))]) (rest := []) hx hb hml hown hts (y_is l D cs B G V n hP.1 (q) (mo) (w) (j) (1) (6) (m_tp) (m_sz) (m_fr) (m_bh) (m_hd) (m_ft) (m_fa) (m_le) (m_fo) (m_as) (m_fd) (m_bc) (m_bg) (m_bs) (m_be) (m_b0) (m_b1) (m_cm) (m_hc)  hc0 hp0 hR hmo (by omega) hA (by decide) (by decide) rfl) hZ hc0 cv_X13_103 rfl rfl ⟨Nat.le_of_ble_eq_true rfl, Nat.le_of_ble_eq_true rfl⟩ rfl hl.1 rfl (Nat.le_of_ble_eq_true rfl) dX13_readItem_3 ⟨(Nat.le_of_ble_eq_true rfl), (Nat.le_of_ble_eq_true rfl)⟩) hZ (fun r7 V4 n5 _ _ hw6 hZ => ?_)
  obtain ⟨rfl, rfl, hp10⟩ := hw6
  have b11 := hq_rng r7
  refine lv_if_eq (tgt := 130) hx hb dX13_readItem_6 (by decide) (fun c12 => ?_) (fun c12 => ?_)
  · have c12 : (r7).toInt = (0 : Int) := hq_eqi.mp c12
    have b13 : ¬ sp_k w (j) = 6 := by have h9 := hp10; omega
    refine lv_aload_n hx hb dX13_readItem_130 rfl (lv_at hl 0 rfl) ?_
    refine va_ldcS (tx := (hp_so.getD 2 ("", 0, "")).2.2) (q := cs (100 + 2)) hx hb hown (hZ.2.2.2.2.2.2.2.2.2.2 2 (by decide)) dX13_readItem_131 ?_
    refine hp_calli (hp_runV (As := [.ref (cs (100 + 2))]) (rest := []) hx hb hml hown hts (y_is l D cs B G V n hP.1 (q) (mo) (w) (j) (2) (7) (m_tp) (m_sz) (m_fr) (m_bh) (m_hd) (m_ft) (m_fa) (m_le) (m_fo) (m_as) (m_fd) (m_bc) (m_bg) (m_bs) (m_be) (m_b0) (m_b1) (m_cm) (m_hc)  hc0 hp0 hR hmo (by omega) hA (by decide) (by decide) rfl) hZ hc0 cv_X13_103 rfl rfl ⟨Nat.le_of_ble_eq_true rfl, Nat.le_of_ble_eq_true rfl⟩ rfl hl.1 rfl (Nat.le_of_ble_eq_true rfl) dX13_readItem_133 ⟨(Nat.le_of_ble_eq_true rfl), (Nat.le_of_ble_eq_true rfl)⟩) hZ (fun r17 V14 n15 _ _ hw16 hZ => ?_)
    obtain ⟨rfl, rfl, hp20⟩ := hw16
    have b21 := hq_rng r17
    refine lv_if_eq (tgt := 276) hx hb dX13_readItem_136 (by decide) (fun c22 => ?_) (fun c22 => ?_)
    · have c22 : (r17).toInt = (0 : Int) := hq_eqi.mp c22
      have b23 : ¬ sp_k w (j) = 7 := by have h9 := hp20; omega
      refine lv_aload_n hx hb dX13_readItem_276 rfl (lv_at hl 0 rfl) ?_
      refine hq_callx (hq_runV (As := []) (rest := []) hx hb hml hown hts (y_readLine l D cs B G V n hP.1 (q) (mo) (w) (rh) (j) (cl) (vn) (vc) (lz) (m_tp) (m_sz) (m_fr) (m_bh) (m_hd) (m_ft) (m_fa) (m_le) (m_fo) (m_as) (m_fd) (m_bc) (m_bg) (m_bs) (m_be) (m_b0) (m_b1) (m_cm) (m_hc)  hc0 hp0 hp1 hR hmo hmq (by omega) hA hCN hVN hLL hcc hcv hcl) hZ hc0 cv_X13_179 rfl rfl ⟨Nat.le_of_ble_eq_true rfl, Nat.le_of_ble_eq_true rfl⟩ rfl hl.1 rfl (Nat.le_of_ble_eq_true rfl) dX13_readItem_277 ⟨(Nat.le_of_ble_eq_true rfl), (Nat.le_of_ble_eq_true rfl)⟩) hZ hnx hlocks (by rintro x9 V9x n9 ⟨rfl, rfl, hqx, frx, zx30, zx31, zx32, zx33, zx34, zx35, hox36, hpx37, hpx38, hpx39⟩; have b40 := hq_rng zx30; have b41 := hq_rng zx31; have b42 := hq_rng zx32; have b43 := hq_rng zx33; have b44 := hq_rng zx34; exact ⟨rfl, rfl, hP.trans hqx (fun _ h => Bool.noConfusion h), (fun x8 hne0 hne1 => frx x8 hne0 hne1), zx30, zx31, zx32, zx33, zx34, zx35, hox36, (by rw [sp_it_l (by omega) (by omega)]; (try dsimp only); exact hpx37), hpx38, hpx39⟩) (fun v9 V24 n25 _ _ hw26 hZ => ?_)
      obtain ⟨rfl, rfl, hq28, fr29, z45, z46, z47, u48, ho49, hp50, hp51, hp52, hp53⟩ := hw26
      refine W.eq (g2 := F0 m 280 ls []) rfl ?_
      have b54 := hq_rng z45
      have b55 := hq_rng z46
      have b56 := hq_rng z47
      have hP := hP.trans hq28 (fun _ h => Bool.noConfusion h)
      obtain ⟨b57, hA58, hln9, hlt9, hct9⟩ := hp50
      exact hq_vret hx hb hr hlocks hZ ⟨rfl, rfl, hP, (fun x8 hne0 hne1 => fr29 x8 hne0 hne1), z45, z46, z47, u48, ho49, (by rw [sp_it_l (by omega) (by omega)]; (try dsimp only); exact ⟨by omega, hA58, hDR.line hp52 hlt9 hct9 hln9⟩), hp51, hp53⟩ dX13_readItem_280
    · have c22 : ¬ (r17).toInt = (0 : Int) := fun h9 => c22 (hq_eqi.mpr h9)
      have b59 : sp_k w (j) = 7 := by have h9 := hp20; omega
      refine lv_aload_n hx hb dX13_readItem_139 rfl (lv_at hl 0 rfl) ?_
      refine hp_get (v := .ref (q + 1)) hx hb hts hown hZ hc0 fl_X13_7 rfl dX13_readItem_140 ?_
      refine lv_iconst (v := 1) hx hb dX13_readItem_143 (by decide) ?_
      obtain ⟨rf60, hrf61⟩ : ∃ f : Nat → Int32, f = rh 1 := ⟨_, rfl⟩
      have ea62 : V (q + 1) = some (.inl (cs 1, 2, .inl (rf60))) := by rw [hrf61]; exact hp1 1 (by decide)
      have hra63 := hq_rg hP.1 (hr_1 hR) ea62
      refine hp_iald hx hb hZ ea62 (by unfold vp_in; decide) dX13_readItem_144 ?_
      refine lv_topi (fun y64 ey65 => ?_)
      have b66 : hq_ir (hq_lo 9) (hq_hi 9) y64 := by rw [ey65]; exact hra63 _ (by decide)
      have b66 : 0 ≤ (y64).toInt ∧ (y64).toInt ≤ 30 := b66
      have b67 : (y64).toInt = (vn.length : Int) := by rw [ey65, hrf61]; exact hcv
      refine lv_bipush (v := 30) hx hb dX13_readItem_145 (by decide) ?_
      refine lv_icmp_ne (tgt := 156) hx hb dX13_readItem_147 (by decide) (fun c68 => ?_) (fun c68 => ?_)
      · have c68 : ¬ (y64).toInt = (30 : Int) := fun h9 => c68 (hq_eqi.mpr h9)
        refine lv_aload_n hx hb dX13_readItem_156 rfl (lv_at hl 0 rfl) ?_
        refine hp_callv (hp_runV (As := []) (rest := []) hx hb hml hown hts (y_next l D cs B G V n hP.1 (q) (mo) (w) (j) (m_tp) (m_sz) (m_fr) (m_bh) (m_hd) (m_ft) (m_fa) (m_le) (m_fo) (m_as) (m_fd) (m_bc) (m_bg) (m_bs) (m_be) (m_b0) (m_b1) (m_cm) (m_hc)  hc0 hp0 hR hmo hmq (by omega) hA (by omega)) hZ hc0 cv_X13_111 rfl rfl ⟨Nat.le_of_ble_eq_true rfl, Nat.le_of_ble_eq_true rfl⟩ rfl hl.1 rfl (Nat.le_of_ble_eq_true rfl) dX13_readItem_157 ⟨(Nat.le_of_ble_eq_true rfl), (Nat.le_of_ble_eq_true rfl)⟩) hZ (fun V69 n70 _ _ hw71 hZ => ?_)
        obtain ⟨rfl, hq73, fr74, z75, z76, z77, ho78, hp79, hp80⟩ := hw71
        have b81 := hq_rng z75
        have b82 := hq_rng z76
        have b83 := hq_rng z77
        have hP := hP.trans hq73 (fun _ h => Bool.noConfusion h)
        obtain ⟨b84, b85, b86, -⟩ := id hp79
        refine lv_aload_n hx hb dX13_readItem_160 rfl (lv_at hl 0 rfl) ?_
        have pk87 := hp0.keep (fr74 (q + 20) (hq_tne (hr_20 hR) hmo (by simp)))
        refine hq_callx (hq_runV (As := []) (rest := []) hx hb hml hown hts (y_needName l D cs B G V69 n hP.1 (q) (mo) (w) (j + 1) (m_tp) (m_sz) (z75) (z76) (z77) (m_ft) (m_fa) (m_le) (m_fo) (m_as) (m_fd) (m_bc) (m_bg) (m_bs) (m_be) (m_b0) (m_b1) (m_cm) (m_hc)  ho78 pk87 hR hmo hmq (by omega) hp79) hZ ho78 cv_X13_160 rfl rfl ⟨Nat.le_of_ble_eq_true rfl, Nat.le_of_ble_eq_true rfl⟩ rfl hl.1 rfl (Nat.le_of_ble_eq_true rfl) dX13_readItem_161 ⟨(Nat.le_of_ble_eq_true rfl), (Nat.le_of_ble_eq_true rfl)⟩) hZ hnx hlocks (by rintro x9 V9x n9 ⟨rfl, rfl, hqx, frx, zx94, zx95, hox96, hpx97⟩; have b98 := hq_rng zx94; have b99 := hq_rng zx95; obtain ⟨hn91, hn92, hn93⟩ := hpx97; obtain ⟨hnw1, hnw2⟩ := sp_new_a (w := w) (L := vn) (j := j + 1) hn91; have hnw3 : sp_s w (sp_new w vn (j + 1)).2 = sp_s w (j + 1) := (by rw [hnw2]); have pk100 := hp1.keep (fun x7 (hx7 : q ≤ x7 ∧ x7 < q + 19) => (frx x7 (by omega)).trans (fr74 x7 (by omega))); exact ⟨rfl, rfl, hP.trans hqx (fun _ h => Bool.noConfusion h), (fun x8 hne0 hne1 => (frx x8 hne0).trans (fr74 x8 hne0)), z75, z76, z77, zx94, zx95, rh, hox96, (by rw [sp_it_v (by omega)]; (try dsimp only); unfold sp_tv; (repeat (first | (rw [if_pos]; rotate_left; omega) | (rw [if_neg]; rotate_left; omega))); (try dsimp only); exact ⟨by omega, by omega, by omega⟩), pk100, hH0⟩) (fun v9 V88 n89 _ _ hw90 hZ => ?_)
        obtain ⟨rfl, rfl, hq92, fr93, ho101, hp102⟩ := hw90
        refine W.eq (g2 := F0 m 164 ls []) rfl ?_
        have hP := hP.trans hq92 (fun _ h => Bool.noConfusion h)
        have hk17 : sp_k w (j + 1) = 17 := hp102
        have h17 := sp_h_1 (sp_k w (j + 1))
        have hbe := hp79.2.2.2 (by omega)
        have htk := sp_tok (w := w) (j := j + 1) hp79.1
        have hti := sp_tok_in (w := w) (j := j + 1) hp79.1 (by omega)
        have htw := sp_tok_word (w := w) (j := j + 1) hp79.1 (by omega)
        refine lv_aload_n hx hb dX13_readItem_164 rfl (lv_at hl 0 rfl) ?_
        have pk103 := pk87.keep (fr93 (q + 20) (hq_tne (hr_20 hR) hmo (by simp)))
        have pk104 := hp1.keep (fun x7 (hx7 : q ≤ x7 ∧ x7 < q + 19) => (fr93 x7 (by omega)).trans (fr74 x7 (by omega)))
        refine hp_calli (hp_runV (As := []) (rest := []) hx hb hml hown hts (y_verbAtHand l D cs B G V88 n hP.1 (q) (mo) (w) (rh) (j + 1) (vn) (m_tp) (m_sz) (z75) (z76) (z77) (m_ft) (m_fa) (m_le) (m_fo) (m_as) (m_fd) (m_bc) (m_bg) (m_bs) (m_be) (m_b0) (m_b1) (m_cm) (m_hc)  ho101 pk103 pk104 hR hmo hmq (by omega) hp79 hk17 hVN hcv) hZ ho101 cv_X13_166 rfl rfl ⟨Nat.le_of_ble_eq_true rfl, Nat.le_of_ble_eq_true rfl⟩ rfl hl.1 rfl (Nat.le_of_ble_eq_true rfl) dX13_readItem_165 ⟨(Nat.le_of_ble_eq_true rfl), (Nat.le_of_ble_eq_true rfl)⟩) hZ (fun r108 V105 n106 _ _ hw107 hZ => ?_)
        obtain ⟨rfl, rfl, hp111⟩ := hw107
        have b112 := hq_rng r108
        refine lv_iconst (v := -1) hx hb dX13_readItem_168 (by decide) ?_
        refine lv_icmp_eq (tgt := 178) hx hb dX13_readItem_169 (by decide) (fun c113 => ?_) (fun c113 => ?_)
        · have c113 : (r108).toInt = (-1 : Int) := hq_eqi.mp c113
          obtain ⟨hnw1, hnw2⟩ := sp_new_c (w := w) (L := vn) (j := j + 1) hk17 (by omega)
          have hnw3 : sp_s w (sp_new w vn (j + 1)).2 = sp_s w (j + 1) := by rw [hnw2]
          refine lv_bipush (v := 30) hx hb dX13_readItem_178 (by decide) ?_
          refine lv_aload_n hx hb dX13_readItem_180 rfl (lv_at hl 0 rfl) ?_
          refine hp_get (v := .ref (q + 1)) hx hb hts hown hZ ho101 fl_X13_7 rfl dX13_readItem_181 ?_
          refine lv_iconst (v := 1) hx hb dX13_readItem_184 (by decide) ?_
          have fx114 : V88 (q + 1) = some (.inl (cs 1, 2, .inl (rf60))) := (fr93 (q + 1) (hq_tne (hr_1 hR) hmo (by simp))).trans ((fr74 (q + 1) (hq_tne (hr_1 hR) hmo (by simp))).trans (ea62))
          refine hp_iald hx hb hZ fx114 (by unfold vp_in; decide) dX13_readItem_185 ?_
          refine lv_topi (fun y115 ey116 => ?_)
          have b117 : hq_ir (hq_lo 9) (hq_hi 9) y115 := by rw [ey116]; exact hra63 _ (by decide)
          have b117 : 0 ≤ (y115).toInt ∧ (y115).toInt ≤ 30 := b117
          have b118 : (y115).toInt = (vn.length : Int) := by rw [ey116, hrf61]; exact hcv
          refine lv_iadd hx hb dX13_readItem_186 ?_
          refine lv_topi (fun y119 ey120 => ?_)
          obtain ⟨k121, hk122, b123, b124⟩ := hq_add (30) (y115)
          rw [← ey120] at hk122 b123 b124
          have hk122 : (y119).toInt = (30 : Int) + (y115).toInt + k121 * 4294967296 := hk122
          obtain rfl : k121 = 0 := by omega
          refine lv_istore_n (lv' := [(1, .int (y119)), (0, .ref (mo))]) hx hb dX13_readItem_187 rfl hl (by decide) rfl (fun ls hl => ?_)
          have hL9 : (y119).toNatClampNeg = 30 + vn.length := by have h8 := (hq_nn (z := y119) (by omega)).1; omega
          refine lv_aload_n hx hb dX13_readItem_188 rfl (lv_at hl 1 rfl) ?_
          refine hp_get (v := .ref (q + 8)) hx hb hts hown hZ ho101 fl_X13_13 rfl dX13_readItem_189 ?_
          refine lv_iload_n hx hb dX13_readItem_192 rfl (lv_at hl 0 rfl) ?_
          refine lv_aload_n hx hb dX13_readItem_193 rfl (lv_at hl 1 rfl) ?_
          refine hp_get (v := .int (z76)) hx hb hts hown hZ ho101 fl_X13_76 rfl dX13_readItem_194 ?_
          refine lv_aload_n hx hb dX13_readItem_197 rfl (lv_at hl 1 rfl) ?_
          refine hp_get (v := .int (z75)) hx hb hts hown hZ ho101 fl_X13_60 rfl dX13_readItem_198 ?_
          refine lv_isub hx hb dX13_readItem_201 ?_
          refine lv_topi (fun y125 ey126 => ?_)
          obtain ⟨k127, hk128, b129, b130⟩ := hq_sub (z76) (z75)
          rw [← ey126] at hk128 b129 b130
          have hk128 : (y125).toInt = (z76).toInt - (z75).toInt + k127 * 4294967296 := hk128
          obtain rfl : k127 = 0 := by omega
          obtain ⟨rf131, hrf132⟩ : ∃ f : Nat → Int32, f = rh 8 := ⟨_, rfl⟩
          have ea133 : V88 (q + 8) = some (.inl (cs 1, 60, .inl (rf131))) := by rw [hrf132]; exact pk104 8 (by decide)
          have hra134 := hq_rg hP.1 (hr_8 hR) ea133
          refine hp_iast hx hb hZ ea133 (hq_in (by omega) (by omega)) dX13_readItem_202 (fun V135 _ _ e136 o137 hZ => ?_)
          have e136 : V135 (q + 8) = some (.inl (cs 1, 60, .inl (upd (rf131) ((y119 : Int32).toNatClampNeg) (y125)))) := e136
          have hP := hP.put (hr_8 hR) e136 o137 (hq_c21 (by omega) (hq_upd hra134 (show 0 ≤ _ ∧ _ ≤ 12 by constructor <;> omega))) rfl
          obtain ⟨g138, ge139⟩ : ∃ g9 : Nat → Int32, g9 = upd (rf131) ((y119 : Int32).toNatClampNeg) (y125) := ⟨_, rfl⟩
          have fx140 : V135 (q + 8) = some (.inl (cs 1, 60, .inl (g138))) := by rw [ge139]; exact e136
          have hf141 := hq_rg hP.1 (hr_8 hR) fx140
          obtain ⟨rh142, hrh143⟩ : ∃ r9 : hm_Rh, r9 = hm_u2 rh 8 (y119 : Int32).toNatClampNeg ((y125 : Int32)) := ⟨_, rfl⟩
          have pk144 : hm_AR cs V135 q rh142 := by rw [hrh143]; exact pk104.put (a := 8) (by decide) (by rw [ge139, hrf132]) fx140 o137
          have hH145 : hm_H rh rh142 := by rw [hrh143]; exact hH0.put (show 30 ≤ (y119 : Int32).toNatClampNeg by have h8 := (hq_nn (z := y119) (by omega)).1; omega)
          refine lv_iconst (v := 0) hx hb dX13_readItem_203 (by decide) ?_
          refine lv_istore_n (lv' := [(2, .int (0)), (1, .int (y119)), (0, .ref (mo))]) hx hb dX13_readItem_204 rfl hl (by decide) rfl (fun ls hl => ?_)
          have hsz9 : (rh142 8 (y119).toNatClampNeg).toInt = sp_e w (j + 1) - sp_s w (j + 1) := by rw [hrh143, hm_u2e]; omega
          have fx146 : V135 (mo) = some (.inr (13, hm_o q (m_tp) (m_sz) (z75) (z76) (z77) (m_ft) (m_fa) (m_le) (m_fo) (m_as) (m_fd) (m_bc) (m_bg) (m_bs) (m_be) (m_b0) (m_b1) (m_cm) (m_hc))) := (o137 (mo) (hq_tne hmo (hr_8 hR) (by simp))).trans (ho101)
          have pk148 := pk103.keep (o137 (q + 20) (hq_tne (hr_20 hR) (hr_8 hR) (by simp)))
          have hl151 : (0 : Int32).toInt = 0 := by decide
          suffices lp205 : ∀ (k9 : Nat) (V9 : hp_V) (H9 : Heap) (locs9 : List Loc) (ls : Array Slot) (i : Int32) (rh9 : hm_Rh), (100 - i.toInt).toNat = k9 → hp_Z D cs B s V9 H9 n locs9 → hq_P cs G (fun _ => true) V V9 → V9 (mo) = some (.inr (13, hm_o q (m_tp) (m_sz) (z75) (z76) (z77) (m_ft) (m_fa) (m_le) (m_fo) (m_as) (m_fd) (m_bc) (m_bg) (m_bs) (m_be) (m_b0) (m_b1) (m_cm) (m_hc))) → (∀ x, x ≠ mo → (x < q ∨ q + 19 ≤ x) → V9 x = V x) → hm_TP cs V9 q w → hm_AR cs V9 q rh9 → 0 ≤ i.toInt → i.toInt ≤ sp_e w (j + 1) - sp_s w (j + 1) → (∀ a i9 : Nat, ¬ (a = 4 ∧ 12 * (y119).toNatClampNeg ≤ i9 ∧ i9 < 12 * (y119).toNatClampNeg + 12) → rh9 a i9 = rh142 a i9) → (∀ x : Nat, (x : Int) < i.toInt → (rh9 4 (12 * (y119).toNatClampNeg + x)).toInt = w.1 (sp_s w (j + 1) + x)) → (hm_H rh rh9) → lv_has ls 3 [(2, .int (i)), (1, .int (y119)), (0, .ref (mo))] → W p l e ({ frames := 11, cells := 0, slots := 0, locals := 234 }) s m ([.ref (mo)] : List Value).toArray below meth c H9 locs9 0 0 (hq_MQ below (hq_QX D cs B (fun v V' n' => v = none ∧ n = n' ∧ hq_P cs G (fun _ => true) V V' ∧ (∀ x, x ≠ mo → (x < q ∨ q + 19 ≤ x) → V' x = V x) ∧ (∃ m_fr1 : Int32, ∃ m_bh1 : Int32, ∃ m_hd1 : Int32, ∃ rh1 : hm_Rh, V' (mo) = some (.inr (13, hm_o q (m_tp) (m_sz) (m_fr1) (m_bh1) (m_hd1) (m_ft) (m_fa) (m_le) (m_fo) (m_as) (m_fd) (m_bc) (m_bg) (m_bs) (m_be) (m_b0) (m_b1) (m_cm) (m_hc))) ∧ ((sp_item w (cl, vn, vc, lz) j).1 = 0 ∧ hm_A w (sp_item w (cl, vn, vc, lz) j).2.1 m_fr1 m_bh1 m_hd1 ∧ hm_DR rh1 w (sp_item w (cl, vn, vc, lz) j).2.2) ∧ (hm_AR cs V' q rh1) ∧ (hm_H rh rh1))) (fun x V' n' => x = q + 19 ∧ n = n' ∧ hq_P cs G (fun _ => true) V V' ∧ (∀ x, x ≠ mo → (x < q ∨ q + 19 ≤ x) → V' x = V x) ∧ (∃ m_fr1 : Int32, ∃ m_bh1 : Int32, ∃ m_hd1 : Int32, ∃ m_ft1 : Int32, ∃ m_fa1 : Int32, ∃ rh1 : hm_Rh, V' (mo) = some (.inr (13, hm_o q (m_tp) (m_sz) (m_fr1) (m_bh1) (m_hd1) (m_ft1) (m_fa1) (m_le) (m_fo) (m_as) (m_fd) (m_bc) (m_bg) (m_bs) (m_be) (m_b0) (m_b1) (m_cm) (m_hc))) ∧ (hx_F w (sp_item w (cl, vn, vc, lz) j).1 (sp_item w (cl, vn, vc, lz) j).2.1 m_ft1 m_fa1) ∧ (hm_AR cs V' q rh1) ∧ (hm_H rh rh1)))) ([.ref (mo)] : List Value).toArray s 0 0 (hp_F B)) (F0 m 205 ls []) from lp205 _ _ _ _ ls (0) (rh142) rfl hZ hP fx146 (fun x8 hne0 hne1 => (o137 x8 (by omega)).trans ((fr93 x8 hne0).trans (fr74 x8 hne0))) pk148 pk144 (by omega) (by omega) (fun a9 i9 h9 => rfl) (fun x9 h9 => by omega) (hH145) (lv_sub hl [0, 1, 2] rfl)
          intro k9
          induction k9 using Nat.strongRecOn with
          | _ k9 ih205 =>
            intro V9 H9 locs9 ls i rh9  hk205 hZ hP ho147 fr205 pk149 pk150 hv152 hv153 hfr9 hco9 hH9 hl
            have hb_i := hq_rng i
            refine lv_iload_n hx hb dX13_readItem_205 rfl (lv_at hl 0 rfl) ?_
            refine lv_aload_n hx hb dX13_readItem_206 rfl (lv_at hl 2 rfl) ?_
            refine hp_get (v := .ref (q + 8)) hx hb hts hown hZ ho147 fl_X13_13 rfl dX13_readItem_207 ?_
            refine lv_iload_n hx hb dX13_readItem_210 rfl (lv_at hl 1 rfl) ?_
            obtain ⟨rf154, hrf155⟩ : ∃ f : Nat → Int32, f = rh9 8 := ⟨_, rfl⟩
            have ea156 : V9 (q + 8) = some (.inl (cs 1, 60, .inl (rf154))) := by rw [hrf155]; exact pk150 8 (by decide)
            have hra157 := hq_rg hP.1 (hr_8 hR) ea156
            refine hp_iald hx hb hZ ea156 (hq_in (by omega) (by omega)) dX13_readItem_211 ?_
            refine lv_topi (fun y158 ey159 => ?_)
            have b160 : hq_ir (hq_lo 2) (hq_hi 2) y158 := by rw [ey159]; exact hra157 _ (hq_ix (by omega) (by omega))
            have b160 : 0 ≤ (y158).toInt ∧ (y158).toInt ≤ 12 := b160
            have b161 : (y158).toInt = sp_e w (j + 1) - sp_s w (j + 1) := by rw [ey159, hrf155, hfr9 8 _ (fun g9 => absurd g9.1 (by decide))]; exact hsz9
            refine lv_icmp_ge (tgt := 243) hx hb dX13_readItem_212 (by decide) (fun c162 => ?_) (fun c162 => ?_)
            · have c162 : (y158).toInt ≤ (i).toInt := hq_lei.mp c162
              refine lv_aload_n hx hb dX13_readItem_243 rfl (lv_at hl 2 rfl) ?_
              refine hp_callv (hp_runV (As := []) (rest := []) hx hb hml hown hts (y_next l D cs B G V9 n hP.1 (q) (mo) (w) (j + 1) (m_tp) (m_sz) (z75) (z76) (z77) (m_ft) (m_fa) (m_le) (m_fo) (m_as) (m_fd) (m_bc) (m_bg) (m_bs) (m_be) (m_b0) (m_b1) (m_cm) (m_hc)  ho147 pk149 hR hmo hmq (by omega) hp79 (by omega)) hZ ho147 cv_X13_111 rfl rfl ⟨Nat.le_of_ble_eq_true rfl, Nat.le_of_ble_eq_true rfl⟩ rfl hl.1 rfl (Nat.le_of_ble_eq_true rfl) dX13_readItem_244 ⟨(Nat.le_of_ble_eq_true rfl), (Nat.le_of_ble_eq_true rfl)⟩) hZ (fun V163 n164 _ _ hw165 hZ => ?_)
              obtain ⟨rfl, hq167, fr168, z169, z170, z171, ho172, hp173, hp174⟩ := hw165
              have b175 := hq_rng z169
              have b176 := hq_rng z170
              have b177 := hq_rng z171
              have hP := hP.trans hq167 (fun _ h => Bool.noConfusion h)
              have hA178 : hm_A w (j + 2) _ _ _ := hp173
              obtain ⟨b179, b180, b181, -⟩ := id hA178
              refine lv_aload_n hx hb dX13_readItem_247 rfl (lv_at hl 2 rfl) ?_
              refine va_ldcS (tx := (hp_so.getD 3 ("", 0, "")).2.2) (q := cs (100 + 3)) hx hb hown (hZ.2.2.2.2.2.2.2.2.2.2 3 (by decide)) dX13_readItem_248 ?_
              have pk182 := pk149.keep (fr168 (q + 20) (hq_tne (hr_20 hR) hmo (by simp)))
              refine hq_callx (hq_runV (As := [.ref (cs (100 + 3))]) (rest := []) hx hb hml hown hts (y_need l D cs B G V163 n hP.1 (q) (mo) (w) (j + 2) (3) (8) (8) (m_tp) (m_sz) (z169) (z170) (z171) (m_ft) (m_fa) (m_le) (m_fo) (m_as) (m_fd) (m_bc) (m_bg) (m_bs) (m_be) (m_b0) (m_b1) (m_cm) (m_hc)  ho172 pk182 hR hmo hmq (by omega) hA178 (by decide) (by decide) rfl (by decide) rfl) hZ ho172 cv_X13_172 rfl rfl ⟨Nat.le_of_ble_eq_true rfl, Nat.le_of_ble_eq_true rfl⟩ rfl hl.1 rfl (Nat.le_of_ble_eq_true rfl) dX13_readItem_250 ⟨(Nat.le_of_ble_eq_true rfl), (Nat.le_of_ble_eq_true rfl)⟩) hZ hnx hlocks (by rintro x9 V9x n9 ⟨rfl, rfl, hqx, frx, zx189, zx190, zx191, zx192, zx193, hox194, hpx195⟩; have b196 := hq_rng zx189; have b197 := hq_rng zx190; have b198 := hq_rng zx191; have b199 := hq_rng zx192; have b200 := hq_rng zx193; have pk201 := pk150.keep (fun x7 (hx7 : q ≤ x7 ∧ x7 < q + 19) => (frx x7 (by omega)).trans (fr168 x7 (by omega))); exact ⟨rfl, rfl, hP.trans hqx (fun _ h => Bool.noConfusion h), (fun x8 hne0 hne1 => (frx x8 hne0).trans ((fr168 x8 hne0).trans (fr205 x8 hne0 hne1))), zx189, zx190, zx191, zx192, zx193, rh9, hox194, (by have hk9 := hpx195.1; rw [sp_it_v (by omega)]; (try dsimp only); unfold sp_tv; (repeat (first | (rw [if_pos]; rotate_left; omega) | (rw [if_neg]; rotate_left; omega))); (try dsimp only); exact hpx195), pk201, hH9⟩) (fun v9 V183 n184 _ _ hw185 hZ => ?_)
              obtain ⟨rfl, rfl, hq187, fr188, z202, z203, z204, ho205, hp206⟩ := hw185
              refine W.eq (g2 := F0 m 253 ls []) rfl ?_
              have b207 := hq_rng z202
              have b208 := hq_rng z203
              have b209 := hq_rng z204
              have hP := hP.trans hq187 (fun _ h => Bool.noConfusion h)
              obtain ⟨b210, hA211⟩ := hp206
              obtain ⟨b212, b213, b214, -⟩ := id hA211
              refine lv_aload_n hx hb dX13_readItem_253 rfl (lv_at hl 2 rfl) ?_
              refine hp_get (v := .ref (q + 9)) hx hb hts hown hZ ho205 fl_X13_16 rfl dX13_readItem_254 ?_
              refine lv_iload_n hx hb dX13_readItem_257 rfl (lv_at hl 1 rfl) ?_
              refine lv_aload_n hx hb dX13_readItem_258 rfl (lv_at hl 2 rfl) ?_
              have nl215 : hm_NL rh9 7 3 6 6 w cl := hCN.keep (fun i _ _ => by rw [hfr9 7 _ (fun g9 => absurd g9.1 (by decide)), hrh143, hm_u2a (by decide)]) (fun i _ _ => by rw [hfr9 3 _ (fun g9 => absurd g9.1 (by decide)), hrh143, hm_u2a (by decide)])
              have cn216 : (rh9 0 1).toInt = (cl.length : Int) := by rw [hfr9 0 _ (fun g9 => absurd g9.1 (by decide)), hrh143, hm_u2a (by decide)]; exact hcc
              have pk217 := pk182.keep (fr188 (q + 20) (hq_tne (hr_20 hR) hmo (by simp)))
              have pk218 := pk150.keep (fun x7 (hx7 : q ≤ x7 ∧ x7 < q + 19) => (fr188 x7 (by omega)).trans (fr168 x7 (by omega)))
              refine hq_callx (hq_runV (As := []) (rest := [.int (y119), .ref (q + 9)]) hx hb hml hown hts (y_takeClass l D cs B G V183 n hP.1 (q) (mo) (w) (rh9) ((sp_take w 8 (j + 2)).2) (cl) (m_tp) (m_sz) (z202) (z203) (z204) (m_ft) (m_fa) (m_le) (m_fo) (m_as) (m_fd) (m_bc) (m_bg) (m_bs) (m_be) (m_b0) (m_b1) (m_cm) (m_hc)  ho205 pk217 pk218 hR hmo hmq (by omega) hA211 nl215 cn216) hZ ho205 cv_X13_176 rfl rfl ⟨Nat.le_of_ble_eq_true rfl, Nat.le_of_ble_eq_true rfl⟩ rfl hl.1 rfl (Nat.le_of_ble_eq_true rfl) dX13_readItem_259 ⟨(Nat.le_of_ble_eq_true rfl), (Nat.le_of_ble_eq_true rfl)⟩) hZ hnx hlocks (by rintro x9 V9x n9 ⟨rfl, rfl, hqx, frx, zx225, zx226, zx227, zx228, zx229, hox230, hpx231⟩; have b232 := hq_rng zx225; have b233 := hq_rng zx226; have b234 := hq_rng zx227; have b235 := hq_rng zx228; have b236 := hq_rng zx229; have pk237 := pk218.keep (fun x7 (hx7 : q ≤ x7 ∧ x7 < q + 19) => frx x7 (by omega)); exact ⟨rfl, rfl, hP.trans hqx (fun _ h => Bool.noConfusion h), (fun x8 hne0 hne1 => (frx x8 hne0).trans ((fr188 x8 hne0).trans ((fr168 x8 hne0).trans (fr205 x8 hne0 hne1)))), zx225, zx226, zx227, zx228, zx229, rh9, hox230, (by have hk9 := hpx231.1; rw [sp_it_v (by omega)]; (try dsimp only); unfold sp_tv; (repeat (first | (rw [if_pos]; rotate_left; omega) | (rw [if_neg]; rotate_left; omega))); (try dsimp only); exact hpx231), pk237, hH9⟩) (fun v9 V219 n220 _ _ hw221 hZ => ?_)
              obtain ⟨r222, rfl, rfl, hq223, fr224, z238, z239, z240, ho241, hp242, hp243⟩ := hw221
              refine W.eq (g2 := F0 m 262 ls [.int (r222), .int (y119), .ref (q + 9)]) rfl ?_
              have b244 := hq_rng z238
              have b245 := hq_rng z239
              have b246 := hq_rng z240
              have hP := hP.trans hq223 (fun _ h => Bool.noConfusion h)
              have b247 := hq_rng r222
              obtain ⟨b248, hA249, b250⟩ := hp242
              obtain ⟨b251, b252, b253, -⟩ := id hA249
              have pk258 := pk218.keep (fun x7 (hx7 : q ≤ x7 ∧ x7 < q + 19) => fr224 x7 (by omega))
              obtain ⟨rf254, hrf255⟩ : ∃ f : Nat → Int32, f = rh9 9 := ⟨_, rfl⟩
              have ea256 : V219 (q + 9) = some (.inl (cs 1, 60, .inl (rf254))) := by rw [hrf255]; exact pk258 9 (by decide)
              have hra257 := hq_rg hP.1 (hr_9 hR) ea256
              refine hp_iast hx hb hZ ea256 (hq_in (by omega) (by omega)) dX13_readItem_262 (fun V259 _ _ e260 o261 hZ => ?_)
              have e260 : V259 (q + 9) = some (.inl (cs 1, 60, .inl (upd (rf254) ((y119 : Int32).toNatClampNeg) (r222)))) := e260
              have hP := hP.put (hr_9 hR) e260 o261 (hq_c21 (by omega) (hq_upd hra257 (hq_rng _))) rfl
              obtain ⟨g262, ge263⟩ : ∃ g9 : Nat → Int32, g9 = upd (rf254) ((y119 : Int32).toNatClampNeg) (r222) := ⟨_, rfl⟩
              have fx264 : V259 (q + 9) = some (.inl (cs 1, 60, .inl (g262))) := by rw [ge263]; exact e260
              have hf265 := hq_rg hP.1 (hr_9 hR) fx264
              obtain ⟨rh266, hrh267⟩ : ∃ r9 : hm_Rh, r9 = hm_u2 rh9 9 (y119 : Int32).toNatClampNeg ((r222 : Int32)) := ⟨_, rfl⟩
              have pk268 : hm_AR cs V259 q rh266 := by rw [hrh267]; exact pk258.put (a := 9) (by decide) (by rw [ge263, hrf255]) fx264 o261
              have hH269 : hm_H rh rh266 := by rw [hrh267]; exact hH9.put (show 30 ≤ (y119 : Int32).toNatClampNeg by have h8 := (hq_nn (z := y119) (by omega)).1; omega)
              refine lv_aload_n hx hb dX13_readItem_263 rfl (lv_at hl 2 rfl) ?_
              have fx270 : V259 (mo) = some (.inr (13, hm_o q (m_tp) (m_sz) (z238) (z239) (z240) (m_ft) (m_fa) (m_le) (m_fo) (m_as) (m_fd) (m_bc) (m_bg) (m_bs) (m_be) (m_b0) (m_b1) (m_cm) (m_hc))) := (o261 (mo) (hq_tne hmo (hr_9 hR) (by simp))).trans (ho241)
              refine hp_get (v := .ref (q + 1)) hx hb hts hown hZ fx270 fl_X13_7 rfl dX13_readItem_264 ?_
              refine lv_iconst (v := 1) hx hb dX13_readItem_267 (by decide) ?_
              refine lv_dup2_11 hx hb dX13_readItem_268 rfl rfl ?_
              obtain ⟨rf271, hrf272⟩ : ∃ f : Nat → Int32, f = rh266 1 := ⟨_, rfl⟩
              have ea273 : V259 (q + 1) = some (.inl (cs 1, 2, .inl (rf271))) := by rw [hrf272]; exact pk268 1 (by decide)
              have hra274 := hq_rg hP.1 (hr_1 hR) ea273
              refine hp_iald hx hb hZ ea273 (by unfold vp_in; decide) dX13_readItem_269 ?_
              refine lv_topi (fun y275 ey276 => ?_)
              have b277 : hq_ir (hq_lo 9) (hq_hi 9) y275 := by rw [ey276]; exact hra274 _ (by decide)
              have b277 : 0 ≤ (y275).toInt ∧ (y275).toInt ≤ 30 := b277
              have b278 : (y275).toInt = (vn.length : Int) := by rw [ey276, hrf272, hrh267, hm_u2a (by decide), hfr9 1 _ (fun g9 => absurd g9.1 (by decide)), hrh143, hm_u2a (by decide)]; exact hcv
              refine lv_iconst (v := 1) hx hb dX13_readItem_270 (by decide) ?_
              refine lv_iadd hx hb dX13_readItem_271 ?_
              refine lv_topi (fun y279 ey280 => ?_)
              obtain ⟨k281, hk282, b283, b284⟩ := hq_add (y275) (1)
              rw [← ey280] at hk282 b283 b284
              have hk282 : (y279).toInt = (y275).toInt + (1 : Int) + k281 * 4294967296 := hk282
              obtain rfl : k281 = 0 := by omega
              refine hp_iast hx hb hZ ea273 (by unfold vp_in; decide) dX13_readItem_272 (fun V285 _ _ e286 o287 hZ => ?_)
              have e286 : V285 (q + 1) = some (.inl (cs 1, 2, .inl (upd (rf271) ((1 : Int32).toNatClampNeg) (y279)))) := e286
              have hP := hP.put (hr_1 hR) e286 o287 (hq_c21 (by omega) (hq_upd hra274 (show 0 ≤ _ ∧ _ ≤ 30 by constructor <;> omega))) rfl
              obtain ⟨g288, ge289⟩ : ∃ g9 : Nat → Int32, g9 = upd (rf271) ((1 : Int32).toNatClampNeg) (y279) := ⟨_, rfl⟩
              have fx290 : V285 (q + 1) = some (.inl (cs 1, 2, .inl (g288))) := by rw [ge289]; exact e286
              have hf291 := hq_rg hP.1 (hr_1 hR) fx290
              obtain ⟨rh292, hrh293⟩ : ∃ r9 : hm_Rh, r9 = hm_u2 rh266 1 (1 : Int32).toNatClampNeg ((y279 : Int32)) := ⟨_, rfl⟩
              have pk294 : hm_AR cs V285 q rh292 := by rw [hrh293]; exact pk268.put (a := 1) (by decide) (by rw [ge289, hrf272]) fx290 o287
              have hH295 : hm_H rh rh292 := by rw [hrh293]; exact hH269.put (show 1 ≤ (1 : Int32).toNatClampNeg by have h8 := (hq_nn (z := 1) (by omega)).1; omega)
              refine lv_goto (tgt := 280) hx hb dX13_readItem_273 (by decide) ?_
              have fx296 : V285 (mo) = some (.inr (13, hm_o q (m_tp) (m_sz) (z238) (z239) (z240) (m_ft) (m_fa) (m_le) (m_fo) (m_as) (m_fd) (m_bc) (m_bg) (m_bs) (m_be) (m_b0) (m_b1) (m_cm) (m_hc))) := (o287 (mo) (hq_tne hmo (hr_1 hR) (by simp))).trans (fx270)
              have wn297 : hm_WN 8 4 9 1 (y119).toNatClampNeg rh rh142 := by rw [hrh143]; exact hm_WN.put (hm_WN.rf) (Or.inl ⟨rfl, rfl⟩)
              have wn298 : hm_WN 8 4 9 1 (y119).toNatClampNeg rh rh9 := hm_WN.l (wn297) hfr9
              have wn299 : hm_WN 8 4 9 1 (y119).toNatClampNeg rh rh266 := by rw [hrh267]; exact hm_WN.put (wn298) (Or.inr (Or.inl ⟨rfl, rfl⟩))
              have wn300 : hm_WN 8 4 9 1 (y119).toNatClampNeg rh rh292 := by rw [hrh293]; exact hm_WN.put (wn299) (Or.inr (Or.inr ⟨rfl, rfl⟩))
              have hw9 := wn300
              rw [hL9] at hw9
              have hct9 : (rh292 1 1).toInt = (vn.length : Int) + 1 := by show (rh292 1 (1 : Int32).toNatClampNeg).toInt = _; rw [hrh293, hm_u2e]; omega
              have hsz8 : (rh292 8 (30 + vn.length)).toInt = sp_e w (j + 1) - sp_s w (j + 1) := by rw [← hL9]; rw [hrh293, hm_u2a (by decide), hrh267, hm_u2a (by decide), hfr9 8 _ (fun g9 => absurd g9.1 (by decide))]; exact hsz9
              have hco8 : ∀ k : Nat, (k : Int) < sp_e w (j + 1) - sp_s w (j + 1) → (rh292 4 (12 * (30 + vn.length) + k)).toInt = w.1 (sp_s w (j + 1) + k) := fun k9 h9 => by rw [← hL9]; rw [hrh293, hm_u2a (by decide), hrh267, hm_u2a (by decide)]; exact hco9 k9 (by omega)
              have hvx8 : (rh292 9 (30 + vn.length)).toInt = (sp_old w cl (sp_take w 8 (j + 2)).2).2.2 := by rw [← hL9]; rw [hrh293, hm_u2a (by decide), hrh267, hm_u2e]; omega
              exact hq_vret hx hb hr hlocks hZ ⟨rfl, rfl, hP, (fun x8 hne0 hne1 => (o287 x8 (by omega)).trans ((o261 x8 (by omega)).trans ((fr224 x8 hne0).trans ((fr188 x8 hne0).trans ((fr168 x8 hne0).trans (fr205 x8 hne0 hne1)))))), z238, z239, z240, rh292, fx296, (by rw [sp_it_v (by omega)]; (try dsimp only); unfold sp_tv; (repeat (first | (rw [if_pos]; rotate_left; omega) | (rw [if_neg]; rotate_left; omega))); (try dsimp only); exact ⟨by first | rfl | omega, hA249, hDR.verb hw9 (by omega) hct9 hsz8 (by omega) hco8 hvx8⟩), pk294, hH295⟩ dX13_readItem_280
            · have c162 : ¬ (y158).toInt ≤ (i).toInt := fun h9 => c162 (hq_lei.mpr h9)
              refine lv_aload_n hx hb dX13_readItem_215 rfl (lv_at hl 2 rfl) ?_
              refine hp_get (v := .ref (q + 4)) hx hb hts hown hZ ho147 fl_X13_19 rfl dX13_readItem_216 ?_
              refine lv_bipush (v := 12) hx hb dX13_readItem_219 (by decide) ?_
              refine lv_iload_n hx hb dX13_readItem_221 rfl (lv_at hl 1 rfl) ?_
              refine lv_imul hx hb dX13_readItem_222 ?_
              refine lv_topi (fun y301 ey302 => ?_)
              obtain ⟨k303, hk304, b305, b306⟩ := hq_mul (12) (y119)
              rw [← ey302] at hk304 b305 b306
              have hk304 : (y301).toInt = (12 : Int) * (y119).toInt + k303 * 4294967296 := hk304
              obtain rfl : k303 = 0 := by omega
              refine lv_iload_n hx hb dX13_readItem_223 rfl (lv_at hl 0 rfl) ?_
              refine lv_iadd hx hb dX13_readItem_224 ?_
              refine lv_topi (fun y307 ey308 => ?_)
              obtain ⟨k309, hk310, b311, b312⟩ := hq_add (y301) (i)
              rw [← ey308] at hk310 b311 b312
              have hk310 : (y307).toInt = (y301).toInt + (i).toInt + k309 * 4294967296 := hk310
              obtain rfl : k309 = 0 := by omega
              refine lv_aload_n hx hb dX13_readItem_225 rfl (lv_at hl 2 rfl) ?_
              refine hp_get (v := .ref (q + 20)) hx hb hts hown hZ ho147 fl_X13_73 rfl dX13_readItem_226 ?_
              refine lv_aload_n hx hb dX13_readItem_229 rfl (lv_at hl 2 rfl) ?_
              refine hp_get (v := .int (z75)) hx hb hts hown hZ ho147 fl_X13_60 rfl dX13_readItem_230 ?_
              refine lv_iload_n hx hb dX13_readItem_233 rfl (lv_at hl 0 rfl) ?_
              refine lv_iadd hx hb dX13_readItem_234 ?_
              refine lv_topi (fun y313 ey314 => ?_)
              obtain ⟨k315, hk316, b317, b318⟩ := hq_add (z75) (i)
              rw [← ey314] at hk316 b317 b318
              have hk316 : (y313).toInt = (z75).toInt + (i).toInt + k315 * 4294967296 := hk316
              obtain rfl : k315 = 0 := by omega
              have fx319 : V9 (q + 20) = some (.inl (cs 0, 4000, .inl (tg))) := (fr205 (q + 20) (hq_tne (hr_20 hR) hmo (by simp)) (by omega)).trans (htg)
              refine hp_bald hx hb hZ fx319 (hq_in (by omega) (by omega)) dX13_readItem_235 ?_
              refine lv_topi (fun y320 ey321 => ?_)
              have b322 := hq_rng y320
              have hgw9 := hx_gw hz3 (i := y313) (by omega) (by omega)
              rw [← ey321] at hgw9
              have hrg9 := hok.2 (y313).toInt (by omega) (by omega)
              obtain ⟨rf323, hrf324⟩ : ∃ f : Nat → Int32, f = rh9 4 := ⟨_, rfl⟩
              have ea325 : V9 (q + 4) = some (.inl (cs 0, 720, .inl (rf323))) := by rw [hrf324]; exact pk150 4 (by decide)
              refine hp_bast hx hb hZ ea325 (hq_in (by omega) (by omega)) dX13_readItem_236 (fun V327 _ _ e328 o329 hZ => ?_)
              have e328 : V327 (q + 4) = some (.inl (cs 0, 720, .inl (upd (rf323) ((y307 : Int32).toNatClampNeg) ((y320 : Int32).toInt8.toInt32)))) := e328
              have hP := hP.put (hr_4 hR) e328 o329 (hq_c20 (by omega)) rfl
              obtain ⟨g330, ge331⟩ : ∃ g9 : Nat → Int32, g9 = upd (rf323) ((y307 : Int32).toNatClampNeg) ((y320 : Int32).toInt8.toInt32) := ⟨_, rfl⟩
              have fx332 : V327 (q + 4) = some (.inl (cs 0, 720, .inl (g330))) := by rw [ge331]; exact e328
              have hf333 := hq_rg20 hP.1 (hr_4 hR) fx332
              obtain ⟨rh334, hrh335⟩ : ∃ r9 : hm_Rh, r9 = hm_u2 rh9 4 (y307 : Int32).toNatClampNeg ((y320 : Int32).toInt8.toInt32) := ⟨_, rfl⟩
              have pk336 : hm_AR cs V327 q rh334 := by rw [hrh335]; exact pk150.put (a := 4) (by decide) (by rw [ge331, hrf324]) fx332 o329
              have hH337 : hm_H rh rh334 := by rw [hrh335]; exact hH9.put (show 360 ≤ (y307 : Int32).toNatClampNeg by have h8 := (hq_nn (z := y307) (by omega)).1; omega)
              obtain ⟨y338, ey339⟩ : ∃ y : Int32, y = i + (1) := ⟨_, rfl⟩
              obtain ⟨k340, hk341, b342, b343⟩ := hq_add (i) (1)
              rw [← ey339] at hk341 b342 b343
              have hk341 : (y338).toInt = (i).toInt + (1) + k340 * 4294967296 := hk341
              obtain rfl : k340 = 0 := by omega
              refine lv_iinc (v := y338) (lv' := [(2, .int (y338)), (1, .int (y119)), (0, .ref (mo))]) hx hb dX13_readItem_237 hl (k := 0) rfl (by rw [ey339]; rfl) (by decide) rfl (fun ls hl => ?_)
              refine lv_goto (tgt := 205) hx hb dX13_readItem_240 (by decide) ?_
              have fx344 : V327 (mo) = some (.inr (13, hm_o q (m_tp) (m_sz) (z75) (z76) (z77) (m_ft) (m_fa) (m_le) (m_fo) (m_as) (m_fd) (m_bc) (m_bg) (m_bs) (m_be) (m_b0) (m_b1) (m_cm) (m_hc))) := (o329 (mo) (hq_tne hmo (hr_4 hR) (by simp))).trans (ho147)
              have pk345 := pk149.keep (o329 (q + 20) (hq_tne (hr_20 hR) (hr_4 hR) (by simp)))
              exact ih205 _ (by omega) _ _ _ ls (y338) (rh334) rfl hZ hP fx344 (fun x8 hne0 hne1 => (o329 x8 (by omega)).trans (fr205 x8 hne0 hne1)) pk345 pk336 (by omega) (by omega) (fun a9 i9 h9 => by rw [hrh335]; by_cases c9 : a9 = 4 ∧ i9 = (y307 : Int32).toNatClampNeg; (· have h8 := (hq_nn (z := y307) (by omega)).1; have h7 := (hq_nn (z := y119) (by omega)).1; exact absurd ⟨c9.1, by omega, by omega⟩ h9); (· by_cases c8 : a9 = 4; (· rw [hm_u2i (fun e9 => c9 ⟨c8, e9⟩)]; exact hfr9 a9 i9 h9); (· rw [hm_u2a c8]; exact hfr9 a9 i9 h9))) (fun x9 h9 => by rw [hrh335]; have h8 := (hq_nn (z := y307) (by omega)).1; have h7 := (hq_nn (z := y119) (by omega)).1; by_cases c9 : (x9 : Int) < i.toInt; (· rw [hm_u2i (by omega)]; exact hco9 x9 c9); (· rw [show 12 * (y119).toNatClampNeg + x9 = (y307 : Int32).toNatClampNeg by omega, hm_u2e, hx_n8 (by omega), hgw9]; exact congrArg w.1 (by omega))) (hH337) (lv_sub hl [0, 1, 2] rfl)
        · have c113 : ¬ (r108).toInt = (-1 : Int) := fun h9 => c113 (hq_eqi.mpr h9)
          obtain ⟨hnw1, hnw2⟩ := sp_new_b (w := w) (L := vn) (j := j + 1) hk17 (by omega)
          have hnw3 : sp_s w (sp_new w vn (j + 1)).2 = sp_s w (j + 1) := by rw [hnw2]
          refine lv_aload_n hx hb dX13_readItem_172 rfl (lv_at hl 0 rfl) ?_
          refine lv_iconst (v := 2) hx hb dX13_readItem_173 (by decide) ?_
          have hl346 : (2 : Int32).toInt = 2 := by decide
          refine hp_callq (hp_runV (As := [.int (2)]) (rest := []) hx hb hml hown hts (y_wrong l D cs B G V88 n hP.1 (q) (mo) (m_tp) (m_sz) (z75) (z76) (z77) (m_ft) (m_fa) (m_le) (m_fo) (m_as) (m_fd) (m_bc) (m_bg) (m_bs) (m_be) (m_b0) (m_b1) (m_cm) (m_hc) (2)  ho101  hR hmo hmq) hZ ho101 cv_X13_107 rfl rfl ⟨Nat.le_of_ble_eq_true rfl, Nat.le_of_ble_eq_true rfl⟩ rfl hl.1 rfl (Nat.le_of_ble_eq_true rfl) dX13_readItem_174 ⟨(Nat.le_of_ble_eq_true rfl), (Nat.le_of_ble_eq_true rfl)⟩) hZ (fun r350 V347 n348 _ _ hw349 hZ => ?_)
          obtain ⟨rfl, hq351, fr352, ho353, hp354⟩ := hw349
          have hP := hP.trans hq351 (fun _ h => Bool.noConfusion h)
          subst hp354
          refine W.eq (g2 := F0 m 177 ls [.ref (q + 19)]) rfl ?_
          have hl355 : (2 : Int32).toInt = 2 := by decide
          have pk356 := pk104.keep (fun x7 (hx7 : q ≤ x7 ∧ x7 < q + 19) => fr352 x7 (by omega))
          exact hq_athrow hx hb hnx hlocks hZ ⟨rfl, rfl, hP, (fun x8 hne0 hne1 => (fr352 x8 hne0).trans ((fr93 x8 hne0).trans (fr74 x8 hne0))), z75, z76, z77, 2, z75, rh, ho353, (by rw [sp_it_v (by omega)]; (try dsimp only); unfold sp_tv; (repeat (first | (rw [if_pos]; rotate_left; omega) | (rw [if_neg]; rotate_left; omega))); (try dsimp only); exact ⟨by omega, by omega, by omega⟩), pk356, hH0⟩ dX13_readItem_177
      · have c68 : (y64).toInt = (30 : Int) := hq_eqi.mp c68
        refine lv_aload_n hx hb dX13_readItem_150 rfl (lv_at hl 0 rfl) ?_
        refine lv_iconst (v := 4) hx hb dX13_readItem_151 (by decide) ?_
        have hl357 : (4 : Int32).toInt = 4 := by decide
        refine hp_callq (hp_runV (As := [.int (4)]) (rest := []) hx hb hml hown hts (y_wrong l D cs B G V n hP.1 (q) (mo) (m_tp) (m_sz) (m_fr) (m_bh) (m_hd) (m_ft) (m_fa) (m_le) (m_fo) (m_as) (m_fd) (m_bc) (m_bg) (m_bs) (m_be) (m_b0) (m_b1) (m_cm) (m_hc) (4)  hc0  hR hmo hmq) hZ hc0 cv_X13_107 rfl rfl ⟨Nat.le_of_ble_eq_true rfl, Nat.le_of_ble_eq_true rfl⟩ rfl hl.1 rfl (Nat.le_of_ble_eq_true rfl) dX13_readItem_152 ⟨(Nat.le_of_ble_eq_true rfl), (Nat.le_of_ble_eq_true rfl)⟩) hZ (fun r361 V358 n359 _ _ hw360 hZ => ?_)
        obtain ⟨rfl, hq362, fr363, ho364, hp365⟩ := hw360
        have hP := hP.trans hq362 (fun _ h => Bool.noConfusion h)
        subst hp365
        refine W.eq (g2 := F0 m 155 ls [.ref (q + 19)]) rfl ?_
        have hl366 : (4 : Int32).toInt = 4 := by decide
        have pk367 := hp1.keep (fun x7 (hx7 : q ≤ x7 ∧ x7 < q + 19) => fr363 x7 (by omega))
        exact hq_athrow hx hb hnx hlocks hZ ⟨rfl, rfl, hP, (fun x8 hne0 hne1 => fr363 x8 hne0), m_fr, m_bh, m_hd, 4, m_fr, rh, ho364, (by rw [sp_it_v (by omega)]; (try dsimp only); unfold sp_tv; (repeat (first | (rw [if_pos]; rotate_left; omega) | (rw [if_neg]; rotate_left; omega))); (try dsimp only); exact ⟨by omega, by omega, by omega⟩), pk367, hH0⟩ dX13_readItem_155
  · have c12 : ¬ (r7).toInt = (0 : Int) := fun h9 => c12 (hq_eqi.mpr h9)
    have b368 : sp_k w (j) = 6 := by have h9 := hp10; omega
    refine lv_aload_n hx hb dX13_readItem_9 rfl (lv_at hl 0 rfl) ?_
    refine hp_get (v := .ref (q)) hx hb hts hown hZ hc0 fl_X13_1 rfl dX13_readItem_10 ?_
    refine lv_iconst (v := 1) hx hb dX13_readItem_13 (by decide) ?_
    obtain ⟨rf369, hrf370⟩ : ∃ f : Nat → Int32, f = rh 0 := ⟨_, rfl⟩
    have ea371 : V (q) = some (.inl (cs 1, 2, .inl (rf369))) := by rw [hrf370]; exact hp1 0 (by decide)
    have hra372 := hq_rg hP.1 (hr_0 hR) ea371
    refine hp_iald hx hb hZ ea371 (by unfold vp_in; decide) dX13_readItem_14 ?_
    refine lv_topi (fun y373 ey374 => ?_)
    have b375 : hq_ir (hq_lo 11) (hq_hi 11) y373 := by rw [ey374]; exact hra372 _ (by decide)
    have b375 : 0 ≤ (y373).toInt ∧ (y373).toInt ≤ 6 := b375
    have b376 : (y373).toInt = (cl.length : Int) := by rw [ey374, hrf370]; exact hcc
    refine lv_bipush (v := 6) hx hb dX13_readItem_15 (by decide) ?_
    refine lv_icmp_ne (tgt := 26) hx hb dX13_readItem_17 (by decide) (fun c377 => ?_) (fun c377 => ?_)
    · have c377 : ¬ (y373).toInt = (6 : Int) := fun h9 => c377 (hq_eqi.mpr h9)
      refine lv_aload_n hx hb dX13_readItem_26 rfl (lv_at hl 0 rfl) ?_
      refine hp_callv (hp_runV (As := []) (rest := []) hx hb hml hown hts (y_next l D cs B G V n hP.1 (q) (mo) (w) (j) (m_tp) (m_sz) (m_fr) (m_bh) (m_hd) (m_ft) (m_fa) (m_le) (m_fo) (m_as) (m_fd) (m_bc) (m_bg) (m_bs) (m_be) (m_b0) (m_b1) (m_cm) (m_hc)  hc0 hp0 hR hmo hmq (by omega) hA (by omega)) hZ hc0 cv_X13_111 rfl rfl ⟨Nat.le_of_ble_eq_true rfl, Nat.le_of_ble_eq_true rfl⟩ rfl hl.1 rfl (Nat.le_of_ble_eq_true rfl) dX13_readItem_27 ⟨(Nat.le_of_ble_eq_true rfl), (Nat.le_of_ble_eq_true rfl)⟩) hZ (fun V378 n379 _ _ hw380 hZ => ?_)
      obtain ⟨rfl, hq382, fr383, z384, z385, z386, ho387, hp388, hp389⟩ := hw380
      have b390 := hq_rng z384
      have b391 := hq_rng z385
      have b392 := hq_rng z386
      have hP := hP.trans hq382 (fun _ h => Bool.noConfusion h)
      obtain ⟨b393, b394, b395, -⟩ := id hp388
      refine lv_aload_n hx hb dX13_readItem_30 rfl (lv_at hl 0 rfl) ?_
      have pk396 := hp0.keep (fr383 (q + 20) (hq_tne (hr_20 hR) hmo (by simp)))
      refine hq_callx (hq_runV (As := []) (rest := []) hx hb hml hown hts (y_needName l D cs B G V378 n hP.1 (q) (mo) (w) (j + 1) (m_tp) (m_sz) (z384) (z385) (z386) (m_ft) (m_fa) (m_le) (m_fo) (m_as) (m_fd) (m_bc) (m_bg) (m_bs) (m_be) (m_b0) (m_b1) (m_cm) (m_hc)  ho387 pk396 hR hmo hmq (by omega) hp388) hZ ho387 cv_X13_160 rfl rfl ⟨Nat.le_of_ble_eq_true rfl, Nat.le_of_ble_eq_true rfl⟩ rfl hl.1 rfl (Nat.le_of_ble_eq_true rfl) dX13_readItem_31 ⟨(Nat.le_of_ble_eq_true rfl), (Nat.le_of_ble_eq_true rfl)⟩) hZ hnx hlocks (by rintro x9 V9x n9 ⟨rfl, rfl, hqx, frx, zx403, zx404, hox405, hpx406⟩; have b407 := hq_rng zx403; have b408 := hq_rng zx404; obtain ⟨hn91, hn92, hn93⟩ := hpx406; obtain ⟨hnw1, hnw2⟩ := sp_new_a (w := w) (L := cl) (j := j + 1) hn91; have hnw3 : sp_s w (sp_new w cl (j + 1)).2 = sp_s w (j + 1) := (by rw [hnw2]); have pk409 := hp1.keep (fun x7 (hx7 : q ≤ x7 ∧ x7 < q + 19) => (frx x7 (by omega)).trans (fr383 x7 (by omega))); exact ⟨rfl, rfl, hP.trans hqx (fun _ h => Bool.noConfusion h), (fun x8 hne0 hne1 => (frx x8 hne0).trans (fr383 x8 hne0)), z384, z385, z386, zx403, zx404, rh, hox405, (by rw [sp_it_c (by omega)]; (try dsimp only); unfold sp_tc; (repeat (first | (rw [if_pos]; rotate_left; omega) | (rw [if_neg]; rotate_left; omega))); (try dsimp only); exact ⟨by omega, by omega, by omega⟩), pk409, hH0⟩) (fun v9 V397 n398 _ _ hw399 hZ => ?_)
      obtain ⟨rfl, rfl, hq401, fr402, ho410, hp411⟩ := hw399
      refine W.eq (g2 := F0 m 34 ls []) rfl ?_
      have hP := hP.trans hq401 (fun _ h => Bool.noConfusion h)
      have hk17 : sp_k w (j + 1) = 17 := hp411
      have h17 := sp_h_1 (sp_k w (j + 1))
      have hbe := hp388.2.2.2 (by omega)
      have htk := sp_tok (w := w) (j := j + 1) hp388.1
      have hti := sp_tok_in (w := w) (j := j + 1) hp388.1 (by omega)
      have htw := sp_tok_word (w := w) (j := j + 1) hp388.1 (by omega)
      refine lv_aload_n hx hb dX13_readItem_34 rfl (lv_at hl 0 rfl) ?_
      have pk412 := pk396.keep (fr402 (q + 20) (hq_tne (hr_20 hR) hmo (by simp)))
      have pk413 := hp1.keep (fun x7 (hx7 : q ≤ x7 ∧ x7 < q + 19) => (fr402 x7 (by omega)).trans (fr383 x7 (by omega)))
      refine hp_calli (hp_runV (As := []) (rest := []) hx hb hml hown hts (y_classAtHand l D cs B G V397 n hP.1 (q) (mo) (w) (rh) (j + 1) (cl) (m_tp) (m_sz) (z384) (z385) (z386) (m_ft) (m_fa) (m_le) (m_fo) (m_as) (m_fd) (m_bc) (m_bg) (m_bs) (m_be) (m_b0) (m_b1) (m_cm) (m_hc)  ho410 pk412 pk413 hR hmo hmq (by omega) hp388 hk17 hCN hcc) hZ ho410 cv_X13_163 rfl rfl ⟨Nat.le_of_ble_eq_true rfl, Nat.le_of_ble_eq_true rfl⟩ rfl hl.1 rfl (Nat.le_of_ble_eq_true rfl) dX13_readItem_35 ⟨(Nat.le_of_ble_eq_true rfl), (Nat.le_of_ble_eq_true rfl)⟩) hZ (fun r417 V414 n415 _ _ hw416 hZ => ?_)
      obtain ⟨rfl, rfl, hp420⟩ := hw416
      have b421 := hq_rng r417
      refine lv_iconst (v := -1) hx hb dX13_readItem_38 (by decide) ?_
      refine lv_icmp_eq (tgt := 48) hx hb dX13_readItem_39 (by decide) (fun c422 => ?_) (fun c422 => ?_)
      · have c422 : (r417).toInt = (-1 : Int) := hq_eqi.mp c422
        obtain ⟨hnw1, hnw2⟩ := sp_new_c (w := w) (L := cl) (j := j + 1) hk17 (by omega)
        have hnw3 : sp_s w (sp_new w cl (j + 1)).2 = sp_s w (j + 1) := by rw [hnw2]
        refine lv_bipush (v := 6) hx hb dX13_readItem_48 (by decide) ?_
        refine lv_aload_n hx hb dX13_readItem_50 rfl (lv_at hl 0 rfl) ?_
        refine hp_get (v := .ref (q)) hx hb hts hown hZ ho410 fl_X13_1 rfl dX13_readItem_51 ?_
        refine lv_iconst (v := 1) hx hb dX13_readItem_54 (by decide) ?_
        have fx423 : V397 (q) = some (.inl (cs 1, 2, .inl (rf369))) := (fr402 (q) (hq_tne (hr_0 hR) hmo (by simp))).trans ((fr383 (q) (hq_tne (hr_0 hR) hmo (by simp))).trans (ea371))
        refine hp_iald hx hb hZ fx423 (by unfold vp_in; decide) dX13_readItem_55 ?_
        refine lv_topi (fun y424 ey425 => ?_)
        have b426 : hq_ir (hq_lo 11) (hq_hi 11) y424 := by rw [ey425]; exact hra372 _ (by decide)
        have b426 : 0 ≤ (y424).toInt ∧ (y424).toInt ≤ 6 := b426
        have b427 : (y424).toInt = (cl.length : Int) := by rw [ey425, hrf370]; exact hcc
        refine lv_iadd hx hb dX13_readItem_56 ?_
        refine lv_topi (fun y428 ey429 => ?_)
        obtain ⟨k430, hk431, b432, b433⟩ := hq_add (6) (y424)
        rw [← ey429] at hk431 b432 b433
        have hk431 : (y428).toInt = (6 : Int) + (y424).toInt + k430 * 4294967296 := hk431
        obtain rfl : k430 = 0 := by omega
        refine lv_istore_n (lv' := [(1, .int (y428)), (0, .ref (mo))]) hx hb dX13_readItem_57 rfl hl (by decide) rfl (fun ls hl => ?_)
        have hL9 : (y428).toNatClampNeg = 6 + cl.length := by have h8 := (hq_nn (z := y428) (by omega)).1; omega
        refine lv_aload_n hx hb dX13_readItem_58 rfl (lv_at hl 1 rfl) ?_
        refine hp_get (v := .ref (q + 7)) hx hb hts hown hZ ho410 fl_X13_153 rfl dX13_readItem_59 ?_
        refine lv_iload_n hx hb dX13_readItem_62 rfl (lv_at hl 0 rfl) ?_
        refine lv_aload_n hx hb dX13_readItem_63 rfl (lv_at hl 1 rfl) ?_
        refine hp_get (v := .int (z385)) hx hb hts hown hZ ho410 fl_X13_76 rfl dX13_readItem_64 ?_
        refine lv_aload_n hx hb dX13_readItem_67 rfl (lv_at hl 1 rfl) ?_
        refine hp_get (v := .int (z384)) hx hb hts hown hZ ho410 fl_X13_60 rfl dX13_readItem_68 ?_
        refine lv_isub hx hb dX13_readItem_71 ?_
        refine lv_topi (fun y434 ey435 => ?_)
        obtain ⟨k436, hk437, b438, b439⟩ := hq_sub (z385) (z384)
        rw [← ey435] at hk437 b438 b439
        have hk437 : (y434).toInt = (z385).toInt - (z384).toInt + k436 * 4294967296 := hk437
        obtain rfl : k436 = 0 := by omega
        obtain ⟨rf440, hrf441⟩ : ∃ f : Nat → Int32, f = rh 7 := ⟨_, rfl⟩
        have ea442 : V397 (q + 7) = some (.inl (cs 1, 12, .inl (rf440))) := by rw [hrf441]; exact pk413 7 (by decide)
        have hra443 := hq_rg hP.1 (hr_7 hR) ea442
        refine hp_iast hx hb hZ ea442 (hq_in (by omega) (by omega)) dX13_readItem_72 (fun V444 _ _ e445 o446 hZ => ?_)
        have e445 : V444 (q + 7) = some (.inl (cs 1, 12, .inl (upd (rf440) ((y428 : Int32).toNatClampNeg) (y434)))) := e445
        have hP := hP.put (hr_7 hR) e445 o446 (hq_c21 (by omega) (hq_upd hra443 (show 0 ≤ _ ∧ _ ≤ 12 by constructor <;> omega))) rfl
        obtain ⟨g447, ge448⟩ : ∃ g9 : Nat → Int32, g9 = upd (rf440) ((y428 : Int32).toNatClampNeg) (y434) := ⟨_, rfl⟩
        have fx449 : V444 (q + 7) = some (.inl (cs 1, 12, .inl (g447))) := by rw [ge448]; exact e445
        have hf450 := hq_rg hP.1 (hr_7 hR) fx449
        obtain ⟨rh451, hrh452⟩ : ∃ r9 : hm_Rh, r9 = hm_u2 rh 7 (y428 : Int32).toNatClampNeg ((y434 : Int32)) := ⟨_, rfl⟩
        have pk453 : hm_AR cs V444 q rh451 := by rw [hrh452]; exact pk413.put (a := 7) (by decide) (by rw [ge448, hrf441]) fx449 o446
        have hH454 : hm_H rh rh451 := by rw [hrh452]; exact hH0.put (show 6 ≤ (y428 : Int32).toNatClampNeg by have h8 := (hq_nn (z := y428) (by omega)).1; omega)
        refine lv_iconst (v := 0) hx hb dX13_readItem_73 (by decide) ?_
        refine lv_istore_n (lv' := [(2, .int (0)), (1, .int (y428)), (0, .ref (mo))]) hx hb dX13_readItem_74 rfl hl (by decide) rfl (fun ls hl => ?_)
        have hsz9 : (rh451 7 (y428).toNatClampNeg).toInt = sp_e w (j + 1) - sp_s w (j + 1) := by rw [hrh452, hm_u2e]; omega
        have fx455 : V444 (mo) = some (.inr (13, hm_o q (m_tp) (m_sz) (z384) (z385) (z386) (m_ft) (m_fa) (m_le) (m_fo) (m_as) (m_fd) (m_bc) (m_bg) (m_bs) (m_be) (m_b0) (m_b1) (m_cm) (m_hc))) := (o446 (mo) (hq_tne hmo (hr_7 hR) (by simp))).trans (ho410)
        have pk457 := pk412.keep (o446 (q + 20) (hq_tne (hr_20 hR) (hr_7 hR) (by simp)))
        have hl460 : (0 : Int32).toInt = 0 := by decide
        suffices lp75 : ∀ (k9 : Nat) (V9 : hp_V) (H9 : Heap) (locs9 : List Loc) (ls : Array Slot) (i : Int32) (rh9 : hm_Rh), (100 - i.toInt).toNat = k9 → hp_Z D cs B s V9 H9 n locs9 → hq_P cs G (fun _ => true) V V9 → V9 (mo) = some (.inr (13, hm_o q (m_tp) (m_sz) (z384) (z385) (z386) (m_ft) (m_fa) (m_le) (m_fo) (m_as) (m_fd) (m_bc) (m_bg) (m_bs) (m_be) (m_b0) (m_b1) (m_cm) (m_hc))) → (∀ x, x ≠ mo → (x < q ∨ q + 19 ≤ x) → V9 x = V x) → hm_TP cs V9 q w → hm_AR cs V9 q rh9 → 0 ≤ i.toInt → i.toInt ≤ sp_e w (j + 1) - sp_s w (j + 1) → (∀ a i9 : Nat, ¬ (a = 3 ∧ 12 * (y428).toNatClampNeg ≤ i9 ∧ i9 < 12 * (y428).toNatClampNeg + 12) → rh9 a i9 = rh451 a i9) → (∀ x : Nat, (x : Int) < i.toInt → (rh9 3 (12 * (y428).toNatClampNeg + x)).toInt = w.1 (sp_s w (j + 1) + x)) → (hm_H rh rh9) → lv_has ls 3 [(2, .int (i)), (1, .int (y428)), (0, .ref (mo))] → W p l e ({ frames := 11, cells := 0, slots := 0, locals := 234 }) s m ([.ref (mo)] : List Value).toArray below meth c H9 locs9 0 0 (hq_MQ below (hq_QX D cs B (fun v V' n' => v = none ∧ n = n' ∧ hq_P cs G (fun _ => true) V V' ∧ (∀ x, x ≠ mo → (x < q ∨ q + 19 ≤ x) → V' x = V x) ∧ (∃ m_fr1 : Int32, ∃ m_bh1 : Int32, ∃ m_hd1 : Int32, ∃ rh1 : hm_Rh, V' (mo) = some (.inr (13, hm_o q (m_tp) (m_sz) (m_fr1) (m_bh1) (m_hd1) (m_ft) (m_fa) (m_le) (m_fo) (m_as) (m_fd) (m_bc) (m_bg) (m_bs) (m_be) (m_b0) (m_b1) (m_cm) (m_hc))) ∧ ((sp_item w (cl, vn, vc, lz) j).1 = 0 ∧ hm_A w (sp_item w (cl, vn, vc, lz) j).2.1 m_fr1 m_bh1 m_hd1 ∧ hm_DR rh1 w (sp_item w (cl, vn, vc, lz) j).2.2) ∧ (hm_AR cs V' q rh1) ∧ (hm_H rh rh1))) (fun x V' n' => x = q + 19 ∧ n = n' ∧ hq_P cs G (fun _ => true) V V' ∧ (∀ x, x ≠ mo → (x < q ∨ q + 19 ≤ x) → V' x = V x) ∧ (∃ m_fr1 : Int32, ∃ m_bh1 : Int32, ∃ m_hd1 : Int32, ∃ m_ft1 : Int32, ∃ m_fa1 : Int32, ∃ rh1 : hm_Rh, V' (mo) = some (.inr (13, hm_o q (m_tp) (m_sz) (m_fr1) (m_bh1) (m_hd1) (m_ft1) (m_fa1) (m_le) (m_fo) (m_as) (m_fd) (m_bc) (m_bg) (m_bs) (m_be) (m_b0) (m_b1) (m_cm) (m_hc))) ∧ (hx_F w (sp_item w (cl, vn, vc, lz) j).1 (sp_item w (cl, vn, vc, lz) j).2.1 m_ft1 m_fa1) ∧ (hm_AR cs V' q rh1) ∧ (hm_H rh rh1)))) ([.ref (mo)] : List Value).toArray s 0 0 (hp_F B)) (F0 m 75 ls []) from lp75 _ _ _ _ ls (0) (rh451) rfl hZ hP fx455 (fun x8 hne0 hne1 => (o446 x8 (by omega)).trans ((fr402 x8 hne0).trans (fr383 x8 hne0))) pk457 pk453 (by omega) (by omega) (fun a9 i9 h9 => rfl) (fun x9 h9 => by omega) (hH454) (lv_sub hl [0, 1, 2] rfl)
        intro k9
        induction k9 using Nat.strongRecOn with
        | _ k9 ih75 =>
          intro V9 H9 locs9 ls i rh9  hk75 hZ hP ho456 fr75 pk458 pk459 hv461 hv462 hfr9 hco9 hH9 hl
          have hb_i := hq_rng i
          refine lv_iload_n hx hb dX13_readItem_75 rfl (lv_at hl 0 rfl) ?_
          refine lv_aload_n hx hb dX13_readItem_76 rfl (lv_at hl 2 rfl) ?_
          refine hp_get (v := .ref (q + 7)) hx hb hts hown hZ ho456 fl_X13_153 rfl dX13_readItem_77 ?_
          refine lv_iload_n hx hb dX13_readItem_80 rfl (lv_at hl 1 rfl) ?_
          obtain ⟨rf463, hrf464⟩ : ∃ f : Nat → Int32, f = rh9 7 := ⟨_, rfl⟩
          have ea465 : V9 (q + 7) = some (.inl (cs 1, 12, .inl (rf463))) := by rw [hrf464]; exact pk459 7 (by decide)
          have hra466 := hq_rg hP.1 (hr_7 hR) ea465
          refine hp_iald hx hb hZ ea465 (hq_in (by omega) (by omega)) dX13_readItem_81 ?_
          refine lv_topi (fun y467 ey468 => ?_)
          have b469 : hq_ir (hq_lo 2) (hq_hi 2) y467 := by rw [ey468]; exact hra466 _ (hq_ix (by omega) (by omega))
          have b469 : 0 ≤ (y467).toInt ∧ (y467).toInt ≤ 12 := b469
          have b470 : (y467).toInt = sp_e w (j + 1) - sp_s w (j + 1) := by rw [ey468, hrf464, hfr9 7 _ (fun g9 => absurd g9.1 (by decide))]; exact hsz9
          refine lv_icmp_ge (tgt := 113) hx hb dX13_readItem_82 (by decide) (fun c471 => ?_) (fun c471 => ?_)
          · have c471 : (y467).toInt ≤ (i).toInt := hq_lei.mp c471
            refine lv_aload_n hx hb dX13_readItem_113 rfl (lv_at hl 2 rfl) ?_
            refine hp_get (v := .ref (q)) hx hb hts hown hZ ho456 fl_X13_1 rfl dX13_readItem_114 ?_
            refine lv_iconst (v := 1) hx hb dX13_readItem_117 (by decide) ?_
            refine lv_dup2_11 hx hb dX13_readItem_118 rfl rfl ?_
            obtain ⟨rf472, hrf473⟩ : ∃ f : Nat → Int32, f = rh9 0 := ⟨_, rfl⟩
            have ea474 : V9 (q) = some (.inl (cs 1, 2, .inl (rf472))) := by rw [hrf473]; exact pk459 0 (by decide)
            have hra475 := hq_rg hP.1 (hr_0 hR) ea474
            refine hp_iald hx hb hZ ea474 (by unfold vp_in; decide) dX13_readItem_119 ?_
            refine lv_topi (fun y476 ey477 => ?_)
            have b478 : hq_ir (hq_lo 11) (hq_hi 11) y476 := by rw [ey477]; exact hra475 _ (by decide)
            have b478 : 0 ≤ (y476).toInt ∧ (y476).toInt ≤ 6 := b478
            have b479 : (y476).toInt = (cl.length : Int) := by rw [ey477, hrf473, hfr9 0 _ (fun g9 => absurd g9.1 (by decide)), hrh452, hm_u2a (by decide)]; exact hcc
            refine lv_iconst (v := 1) hx hb dX13_readItem_120 (by decide) ?_
            refine lv_iadd hx hb dX13_readItem_121 ?_
            refine lv_topi (fun y480 ey481 => ?_)
            obtain ⟨k482, hk483, b484, b485⟩ := hq_add (y476) (1)
            rw [← ey481] at hk483 b484 b485
            have hk483 : (y480).toInt = (y476).toInt + (1 : Int) + k482 * 4294967296 := hk483
            obtain rfl : k482 = 0 := by omega
            refine hp_iast hx hb hZ ea474 (by unfold vp_in; decide) dX13_readItem_122 (fun V486 _ _ e487 o488 hZ => ?_)
            have e487 : V486 (q) = some (.inl (cs 1, 2, .inl (upd (rf472) ((1 : Int32).toNatClampNeg) (y480)))) := e487
            have hP := hP.put (hr_0 hR) e487 o488 (hq_c21 (by omega) (hq_upd hra475 (show 0 ≤ _ ∧ _ ≤ 6 by constructor <;> omega))) rfl
            obtain ⟨g489, ge490⟩ : ∃ g9 : Nat → Int32, g9 = upd (rf472) ((1 : Int32).toNatClampNeg) (y480) := ⟨_, rfl⟩
            have fx491 : V486 (q) = some (.inl (cs 1, 2, .inl (g489))) := by rw [ge490]; exact e487
            have hf492 := hq_rg hP.1 (hr_0 hR) fx491
            obtain ⟨rh493, hrh494⟩ : ∃ r9 : hm_Rh, r9 = hm_u2 rh9 0 (1 : Int32).toNatClampNeg ((y480 : Int32)) := ⟨_, rfl⟩
            have pk495 : hm_AR cs V486 q rh493 := by rw [hrh494]; exact pk459.put (a := 0) (by decide) (by rw [ge490, hrf473]) fx491 o488
            have hH496 : hm_H rh rh493 := by rw [hrh494]; exact hH9.put (show 1 ≤ (1 : Int32).toNatClampNeg by have h8 := (hq_nn (z := 1) (by omega)).1; omega)
            refine lv_aload_n hx hb dX13_readItem_123 rfl (lv_at hl 2 rfl) ?_
            have fx497 : V486 (mo) = some (.inr (13, hm_o q (m_tp) (m_sz) (z384) (z385) (z386) (m_ft) (m_fa) (m_le) (m_fo) (m_as) (m_fd) (m_bc) (m_bg) (m_bs) (m_be) (m_b0) (m_b1) (m_cm) (m_hc))) := (o488 (mo) (hq_tne hmo (hr_0 hR) (by simp))).trans (ho456)
            have pk498 := pk458.keep (o488 (q + 20) (hq_tne (hr_20 hR) (hr_0 hR) (by simp)))
            refine hp_callv (hp_runV (As := []) (rest := []) hx hb hml hown hts (y_next l D cs B G V486 n hP.1 (q) (mo) (w) (j + 1) (m_tp) (m_sz) (z384) (z385) (z386) (m_ft) (m_fa) (m_le) (m_fo) (m_as) (m_fd) (m_bc) (m_bg) (m_bs) (m_be) (m_b0) (m_b1) (m_cm) (m_hc)  fx497 pk498 hR hmo hmq (by omega) hp388 (by omega)) hZ fx497 cv_X13_111 rfl rfl ⟨Nat.le_of_ble_eq_true rfl, Nat.le_of_ble_eq_true rfl⟩ rfl hl.1 rfl (Nat.le_of_ble_eq_true rfl) dX13_readItem_124 ⟨(Nat.le_of_ble_eq_true rfl), (Nat.le_of_ble_eq_true rfl)⟩) hZ (fun V499 n500 _ _ hw501 hZ => ?_)
            obtain ⟨rfl, hq503, fr504, z505, z506, z507, ho508, hp509, hp510⟩ := hw501
            have b511 := hq_rng z505
            have b512 := hq_rng z506
            have b513 := hq_rng z507
            have hP := hP.trans hq503 (fun _ h => Bool.noConfusion h)
            have hA514 : hm_A w (j + 2) _ _ _ := hp509
            obtain ⟨b515, b516, b517, -⟩ := id hA514
            refine lv_goto (tgt := 280) hx hb dX13_readItem_127 (by decide) ?_
            have wn518 : hm_WN 7 3 7 0 (y428).toNatClampNeg rh rh451 := by rw [hrh452]; exact hm_WN.put (hm_WN.rf) (Or.inl ⟨rfl, rfl⟩)
            have wn519 : hm_WN 7 3 7 0 (y428).toNatClampNeg rh rh9 := hm_WN.l (wn518) hfr9
            have wn520 : hm_WN 7 3 7 0 (y428).toNatClampNeg rh rh493 := by rw [hrh494]; exact hm_WN.put (wn519) (Or.inr (Or.inr ⟨rfl, rfl⟩))
            have hw9 := wn520
            rw [hL9] at hw9
            have hct9 : (rh493 0 1).toInt = (cl.length : Int) + 1 := by show (rh493 0 (1 : Int32).toNatClampNeg).toInt = _; rw [hrh494, hm_u2e]; omega
            have hsz8 : (rh493 7 (6 + cl.length)).toInt = sp_e w (j + 1) - sp_s w (j + 1) := by rw [← hL9]; rw [hrh494, hm_u2a (by decide), hfr9 7 _ (fun g9 => absurd g9.1 (by decide))]; exact hsz9
            have hco8 : ∀ k : Nat, (k : Int) < sp_e w (j + 1) - sp_s w (j + 1) → (rh493 3 (12 * (6 + cl.length) + k)).toInt = w.1 (sp_s w (j + 1) + k) := fun k9 h9 => by rw [← hL9]; rw [hrh494, hm_u2a (by decide)]; exact hco9 k9 (by omega)
            have pk521 := pk495.keep (fun x7 (hx7 : q ≤ x7 ∧ x7 < q + 19) => fr504 x7 (by omega))
            exact hq_vret hx hb hr hlocks hZ ⟨rfl, rfl, hP, (fun x8 hne0 hne1 => (fr504 x8 hne0).trans ((o488 x8 (by omega)).trans (fr75 x8 hne0 hne1))), z505, z506, z507, rh493, ho508, (by rw [sp_it_c (by omega)]; (try dsimp only); unfold sp_tc; (repeat (first | (rw [if_pos]; rotate_left; omega) | (rw [if_neg]; rotate_left; omega))); (try dsimp only); exact ⟨by first | rfl | omega, hA514, hDR.cls hw9 (by omega) hct9 hsz8 (by omega) hco8⟩), pk521, hH496⟩ dX13_readItem_280
          · have c471 : ¬ (y467).toInt ≤ (i).toInt := fun h9 => c471 (hq_lei.mpr h9)
            refine lv_aload_n hx hb dX13_readItem_85 rfl (lv_at hl 2 rfl) ?_
            refine hp_get (v := .ref (q + 3)) hx hb hts hown hZ ho456 fl_X13_150 rfl dX13_readItem_86 ?_
            refine lv_bipush (v := 12) hx hb dX13_readItem_89 (by decide) ?_
            refine lv_iload_n hx hb dX13_readItem_91 rfl (lv_at hl 1 rfl) ?_
            refine lv_imul hx hb dX13_readItem_92 ?_
            refine lv_topi (fun y522 ey523 => ?_)
            obtain ⟨k524, hk525, b526, b527⟩ := hq_mul (12) (y428)
            rw [← ey523] at hk525 b526 b527
            have hk525 : (y522).toInt = (12 : Int) * (y428).toInt + k524 * 4294967296 := hk525
            obtain rfl : k524 = 0 := by omega
            refine lv_iload_n hx hb dX13_readItem_93 rfl (lv_at hl 0 rfl) ?_
            refine lv_iadd hx hb dX13_readItem_94 ?_
            refine lv_topi (fun y528 ey529 => ?_)
            obtain ⟨k530, hk531, b532, b533⟩ := hq_add (y522) (i)
            rw [← ey529] at hk531 b532 b533
            have hk531 : (y528).toInt = (y522).toInt + (i).toInt + k530 * 4294967296 := hk531
            obtain rfl : k530 = 0 := by omega
            refine lv_aload_n hx hb dX13_readItem_95 rfl (lv_at hl 2 rfl) ?_
            refine hp_get (v := .ref (q + 20)) hx hb hts hown hZ ho456 fl_X13_73 rfl dX13_readItem_96 ?_
            refine lv_aload_n hx hb dX13_readItem_99 rfl (lv_at hl 2 rfl) ?_
            refine hp_get (v := .int (z384)) hx hb hts hown hZ ho456 fl_X13_60 rfl dX13_readItem_100 ?_
            refine lv_iload_n hx hb dX13_readItem_103 rfl (lv_at hl 0 rfl) ?_
            refine lv_iadd hx hb dX13_readItem_104 ?_
            refine lv_topi (fun y534 ey535 => ?_)
            obtain ⟨k536, hk537, b538, b539⟩ := hq_add (z384) (i)
            rw [← ey535] at hk537 b538 b539
            have hk537 : (y534).toInt = (z384).toInt + (i).toInt + k536 * 4294967296 := hk537
            obtain rfl : k536 = 0 := by omega
            have fx540 : V9 (q + 20) = some (.inl (cs 0, 4000, .inl (tg))) := (fr75 (q + 20) (hq_tne (hr_20 hR) hmo (by simp)) (by omega)).trans (htg)
            refine hp_bald hx hb hZ fx540 (hq_in (by omega) (by omega)) dX13_readItem_105 ?_
            refine lv_topi (fun y541 ey542 => ?_)
            have b543 := hq_rng y541
            have hgw9 := hx_gw hz3 (i := y534) (by omega) (by omega)
            rw [← ey542] at hgw9
            have hrg9 := hok.2 (y534).toInt (by omega) (by omega)
            obtain ⟨rf544, hrf545⟩ : ∃ f : Nat → Int32, f = rh9 3 := ⟨_, rfl⟩
            have ea546 : V9 (q + 3) = some (.inl (cs 0, 144, .inl (rf544))) := by rw [hrf545]; exact pk459 3 (by decide)
            refine hp_bast hx hb hZ ea546 (hq_in (by omega) (by omega)) dX13_readItem_106 (fun V548 _ _ e549 o550 hZ => ?_)
            have e549 : V548 (q + 3) = some (.inl (cs 0, 144, .inl (upd (rf544) ((y528 : Int32).toNatClampNeg) ((y541 : Int32).toInt8.toInt32)))) := e549
            have hP := hP.put (hr_3 hR) e549 o550 (hq_c20 (by omega)) rfl
            obtain ⟨g551, ge552⟩ : ∃ g9 : Nat → Int32, g9 = upd (rf544) ((y528 : Int32).toNatClampNeg) ((y541 : Int32).toInt8.toInt32) := ⟨_, rfl⟩
            have fx553 : V548 (q + 3) = some (.inl (cs 0, 144, .inl (g551))) := by rw [ge552]; exact e549
            have hf554 := hq_rg20 hP.1 (hr_3 hR) fx553
            obtain ⟨rh555, hrh556⟩ : ∃ r9 : hm_Rh, r9 = hm_u2 rh9 3 (y528 : Int32).toNatClampNeg ((y541 : Int32).toInt8.toInt32) := ⟨_, rfl⟩
            have pk557 : hm_AR cs V548 q rh555 := by rw [hrh556]; exact pk459.put (a := 3) (by decide) (by rw [ge552, hrf545]) fx553 o550
            have hH558 : hm_H rh rh555 := by rw [hrh556]; exact hH9.put (show 72 ≤ (y528 : Int32).toNatClampNeg by have h8 := (hq_nn (z := y528) (by omega)).1; omega)
            obtain ⟨y559, ey560⟩ : ∃ y : Int32, y = i + (1) := ⟨_, rfl⟩
            obtain ⟨k561, hk562, b563, b564⟩ := hq_add (i) (1)
            rw [← ey560] at hk562 b563 b564
            have hk562 : (y559).toInt = (i).toInt + (1) + k561 * 4294967296 := hk562
            obtain rfl : k561 = 0 := by omega
            refine lv_iinc (v := y559) (lv' := [(2, .int (y559)), (1, .int (y428)), (0, .ref (mo))]) hx hb dX13_readItem_107 hl (k := 0) rfl (by rw [ey560]; rfl) (by decide) rfl (fun ls hl => ?_)
            refine lv_goto (tgt := 75) hx hb dX13_readItem_110 (by decide) ?_
            have fx565 : V548 (mo) = some (.inr (13, hm_o q (m_tp) (m_sz) (z384) (z385) (z386) (m_ft) (m_fa) (m_le) (m_fo) (m_as) (m_fd) (m_bc) (m_bg) (m_bs) (m_be) (m_b0) (m_b1) (m_cm) (m_hc))) := (o550 (mo) (hq_tne hmo (hr_3 hR) (by simp))).trans (ho456)
            have pk566 := pk458.keep (o550 (q + 20) (hq_tne (hr_20 hR) (hr_3 hR) (by simp)))
            exact ih75 _ (by omega) _ _ _ ls (y559) (rh555) rfl hZ hP fx565 (fun x8 hne0 hne1 => (o550 x8 (by omega)).trans (fr75 x8 hne0 hne1)) pk566 pk557 (by omega) (by omega) (fun a9 i9 h9 => by rw [hrh556]; by_cases c9 : a9 = 3 ∧ i9 = (y528 : Int32).toNatClampNeg; (· have h8 := (hq_nn (z := y528) (by omega)).1; have h7 := (hq_nn (z := y428) (by omega)).1; exact absurd ⟨c9.1, by omega, by omega⟩ h9); (· by_cases c8 : a9 = 3; (· rw [hm_u2i (fun e9 => c9 ⟨c8, e9⟩)]; exact hfr9 a9 i9 h9); (· rw [hm_u2a c8]; exact hfr9 a9 i9 h9))) (fun x9 h9 => by rw [hrh556]; have h8 := (hq_nn (z := y528) (by omega)).1; have h7 := (hq_nn (z := y428) (by omega)).1; by_cases c9 : (x9 : Int) < i.toInt; (· rw [hm_u2i (by omega)]; exact hco9 x9 c9); (· rw [show 12 * (y428).toNatClampNeg + x9 = (y528 : Int32).toNatClampNeg by omega, hm_u2e, hx_n8 (by omega), hgw9]; exact congrArg w.1 (by omega))) (hH558) (lv_sub hl [0, 1, 2] rfl)
      · have c422 : ¬ (r417).toInt = (-1 : Int) := fun h9 => c422 (hq_eqi.mpr h9)
        obtain ⟨hnw1, hnw2⟩ := sp_new_b (w := w) (L := cl) (j := j + 1) hk17 (by omega)
        have hnw3 : sp_s w (sp_new w cl (j + 1)).2 = sp_s w (j + 1) := by rw [hnw2]
        refine lv_aload_n hx hb dX13_readItem_42 rfl (lv_at hl 0 rfl) ?_
        refine lv_iconst (v := 2) hx hb dX13_readItem_43 (by decide) ?_
        have hl567 : (2 : Int32).toInt = 2 := by decide
        refine hp_callq (hp_runV (As := [.int (2)]) (rest := []) hx hb hml hown hts (y_wrong l D cs B G V397 n hP.1 (q) (mo) (m_tp) (m_sz) (z384) (z385) (z386) (m_ft) (m_fa) (m_le) (m_fo) (m_as) (m_fd) (m_bc) (m_bg) (m_bs) (m_be) (m_b0) (m_b1) (m_cm) (m_hc) (2)  ho410  hR hmo hmq) hZ ho410 cv_X13_107 rfl rfl ⟨Nat.le_of_ble_eq_true rfl, Nat.le_of_ble_eq_true rfl⟩ rfl hl.1 rfl (Nat.le_of_ble_eq_true rfl) dX13_readItem_44 ⟨(Nat.le_of_ble_eq_true rfl), (Nat.le_of_ble_eq_true rfl)⟩) hZ (fun r571 V568 n569 _ _ hw570 hZ => ?_)
        obtain ⟨rfl, hq572, fr573, ho574, hp575⟩ := hw570
        have hP := hP.trans hq572 (fun _ h => Bool.noConfusion h)
        subst hp575
        refine W.eq (g2 := F0 m 47 ls [.ref (q + 19)]) rfl ?_
        have hl576 : (2 : Int32).toInt = 2 := by decide
        have pk577 := pk413.keep (fun x7 (hx7 : q ≤ x7 ∧ x7 < q + 19) => fr573 x7 (by omega))
        exact hq_athrow hx hb hnx hlocks hZ ⟨rfl, rfl, hP, (fun x8 hne0 hne1 => (fr573 x8 hne0).trans ((fr402 x8 hne0).trans (fr383 x8 hne0))), z384, z385, z386, 2, z384, rh, ho574, (by rw [sp_it_c (by omega)]; (try dsimp only); unfold sp_tc; (repeat (first | (rw [if_pos]; rotate_left; omega) | (rw [if_neg]; rotate_left; omega))); (try dsimp only); exact ⟨by omega, by omega, by omega⟩), pk577, hH0⟩ dX13_readItem_47
    · have c377 : (y373).toInt = (6 : Int) := hq_eqi.mp c377
      refine lv_aload_n hx hb dX13_readItem_20 rfl (lv_at hl 0 rfl) ?_
      refine lv_iconst (v := 4) hx hb dX13_readItem_21 (by decide) ?_
      have hl578 : (4 : Int32).toInt = 4 := by decide
      refine hp_callq (hp_runV (As := [.int (4)]) (rest := []) hx hb hml hown hts (y_wrong l D cs B G V n hP.1 (q) (mo) (m_tp) (m_sz) (m_fr) (m_bh) (m_hd) (m_ft) (m_fa) (m_le) (m_fo) (m_as) (m_fd) (m_bc) (m_bg) (m_bs) (m_be) (m_b0) (m_b1) (m_cm) (m_hc) (4)  hc0  hR hmo hmq) hZ hc0 cv_X13_107 rfl rfl ⟨Nat.le_of_ble_eq_true rfl, Nat.le_of_ble_eq_true rfl⟩ rfl hl.1 rfl (Nat.le_of_ble_eq_true rfl) dX13_readItem_22 ⟨(Nat.le_of_ble_eq_true rfl), (Nat.le_of_ble_eq_true rfl)⟩) hZ (fun r582 V579 n580 _ _ hw581 hZ => ?_)
      obtain ⟨rfl, hq583, fr584, ho585, hp586⟩ := hw581
      have hP := hP.trans hq583 (fun _ h => Bool.noConfusion h)
      subst hp586
      refine W.eq (g2 := F0 m 25 ls [.ref (q + 19)]) rfl ?_
      have hl587 : (4 : Int32).toInt = 4 := by decide
      have pk588 := hp1.keep (fun x7 (hx7 : q ≤ x7 ∧ x7 < q + 19) => fr584 x7 (by omega))
      exact hq_athrow hx hb hnx hlocks hZ ⟨rfl, rfl, hP, (fun x8 hne0 hne1 => fr584 x8 hne0), m_fr, m_bh, m_hd, 4, m_fr, rh, ho585, (by rw [sp_it_c (by omega)]; (try dsimp only); unfold sp_tc; (repeat (first | (rw [if_pos]; rotate_left; omega) | (rw [if_neg]; rotate_left; omega))); (try dsimp only); exact ⟨by omega, by omega, by omega⟩), pk588, hH0⟩ dX13_readItem_25

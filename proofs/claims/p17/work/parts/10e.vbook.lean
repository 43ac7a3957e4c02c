set_option maxHeartbeats 4000000 in
set_option maxRecDepth 100000 in
theorem y_book (l : Launch) (D : va_G) (cs : Nat → ClassId) (B : Nat) (G : hq_G) (V : hp_V) (n : Nat) (hI : hq_I cs G V) (q : Nat) (mo : Nat) (w : sp_W) (kb : Nat) (rh : hm_Rh) (m_tp : Int32) (m_sz : Int32) (m_fr : Int32) (m_bh : Int32) (m_hd : Int32) (m_ft : Int32) (m_fa : Int32) (m_le : Int32) (m_fo : Int32) (m_as : Int32) (m_fd : Int32) (m_bc : Int32) (m_bg : Int32) (m_bs : Int32) (m_be : Int32) (m_b0 : Int32) (m_b1 : Int32) (m_cm : Int32) (m_hc : Int32) (hc0 : V (mo) = some (.inr (13, hm_o q (m_tp) (m_sz) (m_fr) (m_bh) (m_hd) (m_ft) (m_fa) (m_le) (m_fo) (m_as) (m_fd) (m_bc) (m_bg) (m_bs) (m_be) (m_b0) (m_b1) (m_cm) (m_hc)))) (hp0 : hm_TP cs V q w) (hp1 : hm_AR cs V q rh) (hR : hq_RT G q) (hmo : G mo = some (24, 0, 0, 0)) (hmq : mo < q) (hT2 : hk_T2 G kb q) (htp : m_tp.toInt = w.2) (hoc : sp_okc w) (hiv0 : 0 ≤ m_tp.toInt ∧ m_tp.toInt ≤ 4000) (hiv1 : 0 ≤ m_sz.toInt ∧ m_sz.toInt ≤ 4000) (hiv2 : 0 ≤ m_le.toInt ∧ m_le.toInt ≤ 276) (hiv3 : 0 ≤ m_fo.toInt ∧ m_fo.toInt ≤ 4) (hiv4 : 0 ≤ m_as.toInt ∧ m_as.toInt ≤ 4000) (hiv5 : 0 ≤ m_fd.toInt ∧ m_fd.toInt ≤ 900) (hiv6 : 0 ≤ m_cm.toInt ∧ m_cm.toInt ≤ 2) (hiv7 : 0 ≤ m_hc.toInt ∧ m_hc.toInt ≤ 1) (hst : ∃ fs, V (q + 19) = some (.inr (12, fs))) : hp_MW l yX13_book cX13_book 2 (some .int) [(23, 27, 30, 210)] ({ frames := 13, cells := 0, slots := 0, locals := 276 }) D cs B V n [.ref (mo)] (hp_QI D cs B (fun r V' n' => n = n' ∧ hq_P cs G (fun _ => true) V V' ∧ (∀ x, x ≠ mo → (x < q ∨ q + 19 ≤ x) → (∃ t, G x = some t ∧ (hq_grp t).1 ≠ 48) → V' x = V x) ∧ (∃ m_fr1 : Int32, ∃ m_bh1 : Int32, ∃ m_hd1 : Int32, ∃ m_ft1 : Int32, ∃ m_fa1 : Int32, ∃ m_fd1 : Int32, ∃ m_hc1 : Int32, ∃ rh1 : hm_Rh, V' (mo) = some (.inr (13, hm_o q (0) (m_tp) (m_fr1) (m_bh1) (m_hd1) (m_ft1) (m_fa1) (m_le) (m_fo) (m_as) (m_fd1) (m_bc) (m_bg) (m_bs) (m_be) (m_b0) (m_b1) (m_cm) (m_hc1))) ∧ (hx_D (r.toInt = -1) (¬ (sp_prs w 9000 0 ([], [], [], [])).1 = 0 ∧ m_ft1.toInt = (sp_prs w 9000 0 ([], [], [], [])).1 ∧ m_fa1.toInt = sp_s w (sp_prs w 9000 0 ([], [], [], [])).2.1 ∧ hm_H rh rh1 ∧ m_hc1 = m_hc) ((sp_prs w 9000 0 ([], [], [], [])).1 = 0 ∧ m_ft1.toInt = 0 ∧ m_fa1.toInt = -1 ∧ hm_BK rh1 0 w (sp_prs w 9000 0 ([], [], [], [])).2.2 ∧ r.toInt = ((sp_prs w 9000 0 ([], [], [], [])).2.2.2.2.2.length : Int) ∧ m_hc1.toInt = 0)) ∧ (hm_AR cs V' q rh1) ∧ (0 ≤ m_fd1.toInt ∧ m_fd1.toInt ≤ 900) ∧ (0 ≤ m_hc1.toInt ∧ m_hc1.toInt ≤ 1)))) 0 0 := by
  refine hp_walkW (R0 := RX13) (by decide) rfl ?_ (Nat.le_of_ble_eq_true rfl)
  intro p e s m below meth c ls hx hb hr hts hown hlocks hin hml hnx hZ hl
  have hP : hq_P cs G (fun _ => true) V V := hq_P.rf hI
  have hl : lv_has ls 2 [(0, .ref (mo))] := hl
  have hb_m_tp := hq_rng m_tp
  have hb_m_sz := hq_rng m_sz
  have hb_m_fr := hq_rng m_fr
  have hb_m_bh := hq_rng m_bh
  have hb_m_hd := hq_rng m_hd
  have hb_m_ft := hq_rng m_ft
  have hb_m_fa := hq_rng m_fa
  have hb_m_le := hq_rng m_le
  have hb_m_fo := hq_rng m_fo
  have hb_m_as := hq_rng m_as
  have hb_m_fd := hq_rng m_fd
  have hb_m_bc := hq_rng m_bc
  have hb_m_bg := hq_rng m_bg
  have hb_m_bs := hq_rng m_bs
  have hb_m_be := hq_rng m_be
  have hb_m_b0 := hq_rng m_b0
  have hb_m_b1 := hq_rng m_b1
  have hb_m_cm := hq_rng m_cm
  have hb_m_hc := hq_rng m_hc
  have hH0 : hm_H rh rh := hm_H.rf
  obtain ⟨-, -, -, t2d⟩ := id hT2
  have hz8 := (hm_TP.ok hp0).1
  refine lv_aload_n hx hb dX13_book_0 rfl (lv_at hl 0 rfl) ?_
  refine lv_aload_n hx hb dX13_book_1 rfl (lv_at hl 0 rfl) ?_
  refine hp_get (v := .int (m_tp)) hx hb hts hown hZ hc0 fl_X13_295 rfl dX13_book_2 ?_
  refine hp_put hx hb hts hown hZ hc0 fp_X13_70 rfl rfl (Nat.le_of_ble_eq_true rfl) dX13_book_5 (fun V1 _ _ e2 o3 hZ => ?_)
  have e2 : V1 (mo) = some (.inr (13, hm_o q (m_tp) (m_tp) (m_fr) (m_bh) (m_hd) (m_ft) (m_fa) (m_le) (m_fo) (m_as) (m_fd) (m_bc) (m_bg) (m_bs) (m_be) (m_b0) (m_b1) (m_cm) (m_hc))) := e2
  have hP := hP.put hmo e2 o3 (trivial) rfl
  refine lv_aload_n hx hb dX13_book_8 rfl (lv_at hl 0 rfl) ?_
  refine lv_iconst (v := 0) hx hb dX13_book_9 (by decide) ?_
  refine hp_put hx hb hts hown hZ e2 fp_X13_295 rfl rfl (Nat.le_of_ble_eq_true rfl) dX13_book_10 (fun V4 _ _ e5 o6 hZ => ?_)
  have e5 : V4 (mo) = some (.inr (13, hm_o q (0) (m_tp) (m_fr) (m_bh) (m_hd) (m_ft) (m_fa) (m_le) (m_fo) (m_as) (m_fd) (m_bc) (m_bg) (m_bs) (m_be) (m_b0) (m_b1) (m_cm) (m_hc))) := e5
  have hP := hP.put hmo e5 o6 (trivial) rfl
  refine lv_aload_n hx hb dX13_book_13 rfl (lv_at hl 0 rfl) ?_
  refine lv_iconst (v := 0) hx hb dX13_book_14 (by decide) ?_
  refine hp_put hx hb hts hown hZ e5 fp_X13_56 rfl rfl (Nat.le_of_ble_eq_true rfl) dX13_book_15 (fun V7 _ _ e8 o9 hZ => ?_)
  have e8 : V7 (mo) = some (.inr (13, hm_o q (0) (m_tp) (m_fr) (m_bh) (m_hd) (0) (m_fa) (m_le) (m_fo) (m_as) (m_fd) (m_bc) (m_bg) (m_bs) (m_be) (m_b0) (m_b1) (m_cm) (m_hc))) := e8
  have hP := hP.put hmo e8 o9 (trivial) rfl
  refine lv_aload_n hx hb dX13_book_18 rfl (lv_at hl 0 rfl) ?_
  refine lv_iconst (v := -1) hx hb dX13_book_19 (by decide) ?_
  refine hp_put hx hb hts hown hZ e8 fp_X13_63 rfl rfl (Nat.le_of_ble_eq_true rfl) dX13_book_20 (fun V10 _ _ e11 o12 hZ => ?_)
  have e11 : V10 (mo) = some (.inr (13, hm_o q (0) (m_tp) (m_fr) (m_bh) (m_hd) (0) (-1) (m_le) (m_fo) (m_as) (m_fd) (m_bc) (m_bg) (m_bs) (m_be) (m_b0) (m_b1) (m_cm) (m_hc))) := e11
  have hP := hP.put hmo e11 o12 (trivial) rfl
  refine lv_aload_n hx hb dX13_book_23 rfl (lv_at hl 0 rfl) ?_
  have hl13 : (0 : Int32).toInt = 0 := by decide
  have hl14 : (-1 : Int32).toInt = -1 := by decide
  have pk15 := hp0.keep ((o12 (q + 20) (hq_tne (hr_20 hR) hmo (by simp))).trans ((o9 (q + 20) (hq_tne (hr_20 hR) hmo (by simp))).trans ((o6 (q + 20) (hq_tne (hr_20 hR) hmo (by simp))).trans (o3 (q + 20) (hq_tne (hr_20 hR) hmo (by simp))))))
  have pk16 := hp1.keep (fun x7 (hx7 : q ≤ x7 ∧ x7 < q + 19) => (o12 x7 (by omega)).trans ((o9 x7 (by omega)).trans ((o6 x7 (by omega)).trans (o3 x7 (by omega)))))
  refine hq_callc (hq_runV (As := []) (rest := []) hx hb hml hown hts (y_readBook l D cs B G V10 n hP.1 q mo w rh (0) (m_tp) (m_fr) (m_bh) (m_hd) (0) (-1) (m_le) (m_fo) (m_as) (m_fd) (m_bc) (m_bg) (m_bs) (m_be) (m_b0) (m_b1) (m_cm) (m_hc) e11 pk15 pk16 hR hmo hmq (by omega)) hZ e11 cv_X13_304 rfl rfl ⟨Nat.le_of_ble_eq_true rfl, Nat.le_of_ble_eq_true rfl⟩ rfl hl.1 rfl (Nat.le_of_ble_eq_true rfl) dX13_book_24 ⟨Nat.le_of_ble_eq_true rfl, Nat.le_of_ble_eq_true rfl⟩) hZ hown hts hnx ⟨by decide, by decide⟩ (by decide) cl_X13_210 (ci := 12) (r := (RX12, TX12, 6)) rfl (fun x9 V9 n9 h9 => by obtain ⟨rfl, rfl, hq9, fr9, h8⟩ := h9; obtain ⟨fs9, hst9⟩ := hst; exact ⟨fs9, (fr9 (q + 19) (by omega) (by omega)).trans (((o12 (q + 19) (hq_tne (hr_19 hR) hmo (by simp))).trans ((o9 (q + 19) (hq_tne (hr_19 hR) hmo (by simp))).trans ((o6 (q + 19) (hq_tne (hr_19 hR) hmo (by simp))).trans (o3 (q + 19) (hq_tne (hr_19 hR) hmo (by simp)))))).trans hst9)⟩) (fun v9 Vn9 n9 _ _ hw9 hZ => ?_) (fun x9 Vn9 n9 _ _ hw9 hZ => ?_)
  · obtain ⟨rfl, rfl, hq21, fr22, z17, z18, z19, rh23, ho20, ⟨hR01, hR02⟩, pk24, hH25⟩ := hw9
    have hP := hP.trans hq21 (fun _ h => Bool.noConfusion h)
    have b26 := hq_rng z17
    have b27 := hq_rng z18
    have b28 := hq_rng z19
    refine W.eq (g2 := F0 m 27 ls []) rfl ?_
    refine lv_goto (tgt := 33) hx hb dX13_book_27 (by decide) ?_
    refine lv_aload_n hx hb dX13_book_33 rfl (lv_at hl 0 rfl) ?_
    have hl29 : (0 : Int32).toInt = 0 := by decide
    have hl30 : (0 : Int32).toInt = 0 := by decide
    have hl31 : (-1 : Int32).toInt = -1 := by decide
    refine hp_callv (hp_runV (As := []) (rest := []) hx hb hml hown hts (y_become l D cs B G Vn9 n hP.1 (q) (mo) (w) (rh23) ((sp_prs w 9000 0 ([], [], [], [])).2.2) (0) (m_tp) (z17) (z18) (z19) (0) (-1) (m_le) (m_fo) (m_as) (m_fd) (m_bc) (m_bg) (m_bs) (m_be) (m_b0) (m_b1) (m_cm) (m_hc)  ho20 pk24 hR hmo hmq hR02.1 hoc) hZ ho20 cv_X13_307 rfl rfl ⟨Nat.le_of_ble_eq_true rfl, Nat.le_of_ble_eq_true rfl⟩ rfl hl.1 rfl (Nat.le_of_ble_eq_true rfl) dX13_book_34 ⟨(Nat.le_of_ble_eq_true rfl), (Nat.le_of_ble_eq_true rfl)⟩) hZ (fun V32 n33 _ _ hw34 hZ => ?_)
    obtain ⟨rfl, hq36, fr37, u38, hp39, hp40⟩ := hw34
    have hP := hP.trans hq36 (fun _ h => Bool.noConfusion h)
    have hBK9 := hp39
    refine lv_aload_n hx hb dX13_book_37 rfl (lv_at hl 0 rfl) ?_
    have fx47 : V32 (mo) = some (.inr (13, hm_o q (0) (m_tp) (z17) (z18) (z19) (0) (-1) (m_le) (m_fo) (m_as) (m_fd) (m_bc) (m_bg) (m_bs) (m_be) (m_b0) (m_b1) (m_cm) (m_hc))) := (fr37 (mo) (by omega)).trans (ho20)
    have hl48 : (0 : Int32).toInt = 0 := by decide
    have hl49 : (0 : Int32).toInt = 0 := by decide
    have hl50 : (-1 : Int32).toInt = -1 := by decide
    refine hp_callv (hp_runV (As := []) (rest := []) hx hb hml hown hts (t_X13_forget l D cs B G  V32 n hP.1 q hR (mo) hmo fx47  (by omega) (by omega) (by omega) (by omega) (by omega) (by omega) (by omega) (by omega) ) hZ fx47 cv_X13_292 rfl rfl ⟨Nat.le_of_ble_eq_true rfl, Nat.le_of_ble_eq_true rfl⟩ rfl hl.1 rfl (Nat.le_of_ble_eq_true rfl) dX13_book_38 ⟨(Nat.le_of_ble_eq_true rfl), (Nat.le_of_ble_eq_true rfl)⟩) hZ (fun V41 n42 _ _ hw43 hZ => ?_)
    obtain ⟨rfl, hq45, ho51⟩ := hw43
    have hP := hP.trans hq45 (fun _ h => Bool.noConfusion h)
    refine lv_aload_n hx hb dX13_book_41 rfl (lv_at hl 0 rfl) ?_
    refine lv_iconst (v := 0) hx hb dX13_book_42 (by decide) ?_
    refine hp_put hx hb hts hown hZ ho51 fp_X13_310 rfl rfl (Nat.le_of_ble_eq_true rfl) dX13_book_43 (fun V52 _ _ e53 o54 hZ => ?_)
    have e53 : V52 (mo) = some (.inr (13, hm_o q (0) (m_tp) (z17) (z18) (z19) (0) (-1) (m_le) (m_fo) (m_as) (0) (m_bc) (m_bg) (m_bs) (m_be) (m_b0) (m_b1) (m_cm) (m_hc))) := e53
    have hP := hP.put hmo e53 o54 (trivial) rfl
    refine lv_aload_n hx hb dX13_book_46 rfl (lv_at hl 0 rfl) ?_
    refine lv_iconst (v := 0) hx hb dX13_book_47 (by decide) ?_
    refine hp_put hx hb hts hown hZ e53 fp_X13_313 rfl rfl (Nat.le_of_ble_eq_true rfl) dX13_book_48 (fun V55 _ _ e56 o57 hZ => ?_)
    have e56 : V55 (mo) = some (.inr (13, hm_o q (0) (m_tp) (z17) (z18) (z19) (0) (-1) (m_le) (m_fo) (m_as) (0) (m_bc) (m_bg) (m_bs) (m_be) (m_b0) (m_b1) (m_cm) (0))) := e56
    have hP := hP.put hmo e56 o57 (trivial) rfl
    refine lv_aload_n hx hb dX13_book_51 rfl (lv_at hl 0 rfl) ?_
    refine hp_get (v := .ref (q + 2)) hx hb hts hown hZ e56 fl_X13_10 rfl dX13_book_52 ?_
    refine lv_iconst (v := 0) hx hb dX13_book_55 (by decide) ?_
    have pk62 := hp40.keep (fun x7 (hx7 : q ≤ x7 ∧ x7 < q + 19) => (o57 x7 (by omega)).trans ((o54 x7 (by omega)).trans (hT2.fr hq45 (fun g hg => by unfold hk_gr at hg; simp; omega) x7 (by unfold hk_In; omega))))
    obtain ⟨rf58, hrf59⟩ : ∃ f : Nat → Int32, f = u38 2 := ⟨_, rfl⟩
    have ea60 : V55 (q + 2) = some (.inl (cs 1, 2, .inl (rf58))) := by rw [hrf59]; exact pk62 2 (by decide)
    have hra61 := hq_rg hP.1 (hr_2 hR) ea60
    refine hp_iald hx hb hZ ea60 (by unfold vp_in; decide) dX13_book_56 ?_
    refine lv_topi (fun y63 ey64 => ?_)
    have b65 : hq_ir (hq_lo 8) (hq_hi 8) y63 := by rw [ey64]; exact hra61 _ (by decide)
    have b65 : 0 ≤ (y63).toInt ∧ (y63).toInt ≤ 60 := b65
    have b66 : (y63).toInt = ((sp_prs w 9000 0 ([], [], [], [])).2.2.2.2.2.length : Int) := by rw [ey64, hrf59]; exact hBK9.2.2.1
    have hl67 : (0 : Int32).toInt = 0 := by decide
    have hl68 : (-1 : Int32).toInt = -1 := by decide
    have hl69 : (0 : Int32).toInt = 0 := by decide
    have hl70 : (0 : Int32).toInt = 0 := by decide
    exact hp_iret hx hb hr hlocks hZ ⟨rfl, hP, (fun x8 hne0 hne1 hne2 => (o57 x8 hne0).trans ((o54 x8 hne0).trans ((hx_fg (x := x8) hq45 (by obtain ⟨t9, h91, h92⟩ := hne2; exact ⟨t9, h91, by simp_all⟩)).trans ((fr37 x8 hne1).trans ((fr22 x8 hne0 hne1).trans ((o12 x8 hne0).trans ((o9 x8 hne0).trans ((o6 x8 hne0).trans (o3 x8 hne0))))))))), z17, z18, z19, 0, -1, 0, 0, u38, e56, hx_D.r (by omega) ⟨hR01, by omega, by omega, hBK9, by omega, by omega⟩, pk62, by omega, by omega⟩ dX13_book_57
  · obtain ⟨rfl, rfl, hq77, fr78, z71, z72, z73, z74, z75, rh79, ho76, ⟨hR01, hR02, hR03⟩, pk80, hH81⟩ := hw9
    have hP := hP.trans hq77 (fun _ h => Bool.noConfusion h)
    have b82 := hq_rng z71
    have b83 := hq_rng z72
    have b84 := hq_rng z73
    have b85 := hq_rng z74
    have b86 := hq_rng z75
    refine lv_astore_n (lv' := [(1, .ref (q + 19)), (0, .ref (mo))]) hx hb dX13_book_30 rfl hl (by decide) rfl (fun ls hl => ?_)
    refine lv_iconst (v := -1) hx hb dX13_book_31 (by decide) ?_
    have hl87 : (-1 : Int32).toInt = -1 := by decide
    have hl9 : (-1 : Int32).toInt = -1 := by decide
    exact hp_iret hx hb hr hlocks hZ ⟨rfl, hP, (fun x8 hne0 hne1 hne2 => (fr78 x8 hne0 hne1).trans ((o12 x8 hne0).trans ((o9 x8 hne0).trans ((o6 x8 hne0).trans (o3 x8 hne0))))), z71, z72, z73, z74, z75, m_fd, m_hc, rh79, ho76, hx_D.l (by omega) ⟨hR01, hR02, hR03, hH81, rfl⟩, pk80, by omega, by omega⟩ dX13_book_32

set_option maxHeartbeats 4000000 in
set_option maxRecDepth 100000 in
theorem y_readBook (l : Launch) (D : va_G) (cs : Nat → ClassId) (B : Nat) (G : hq_G) (V : hp_V) (n : Nat) (hI : hq_I cs G V) (q : Nat) (mo : Nat) (w : sp_W) (rh : hm_Rh) (m_tp : Int32) (m_sz : Int32) (m_fr : Int32) (m_bh : Int32) (m_hd : Int32) (m_ft : Int32) (m_fa : Int32) (m_le : Int32) (m_fo : Int32) (m_as : Int32) (m_fd : Int32) (m_bc : Int32) (m_bg : Int32) (m_bs : Int32) (m_be : Int32) (m_b0 : Int32) (m_b1 : Int32) (m_cm : Int32) (m_hc : Int32) (hc0 : V (mo) = some (.inr (13, hm_o q (m_tp) (m_sz) (m_fr) (m_bh) (m_hd) (m_ft) (m_fa) (m_le) (m_fo) (m_as) (m_fd) (m_bc) (m_bg) (m_bs) (m_be) (m_b0) (m_b1) (m_cm) (m_hc)))) (hp0 : hm_TP cs V q w) (hp1 : hm_AR cs V q rh) (hR : hq_RT G q) (hmo : G mo = some (24, 0, 0, 0)) (hmq : mo < q) (hsz : m_sz.toInt = w.2) : hq_M l yX13_readBook cX13_readBook 1 none ({ frames := 12, cells := 0, slots := 0, locals := 256 }) D cs B V n [.ref (mo)] (hq_QX D cs B (fun v V' n' => v = none ∧ n = n' ∧ hq_P cs G (fun _ => true) V V' ∧ (∀ x, x ≠ mo → (x < q ∨ q + 19 ≤ x) → V' x = V x) ∧ (∃ m_fr1 : Int32, ∃ m_bh1 : Int32, ∃ m_hd1 : Int32, ∃ rh1 : hm_Rh, V' (mo) = some (.inr (13, hm_o q (m_tp) (m_sz) (m_fr1) (m_bh1) (m_hd1) (m_ft) (m_fa) (m_le) (m_fo) (m_as) (m_fd) (m_bc) (m_bg) (m_bs) (m_be) (m_b0) (m_b1) (m_cm) (m_hc))) ∧ ((sp_prs w 9000 0 ([], [], [], [])).1 = 0 ∧ hm_DR rh1 w (sp_prs w 9000 0 ([], [], [], [])).2.2) ∧ (hm_AR cs V' q rh1) ∧ (hm_H rh rh1))) (fun x V' n' => x = q + 19 ∧ n = n' ∧ hq_P cs G (fun _ => true) V V' ∧ (∀ x, x ≠ mo → (x < q ∨ q + 19 ≤ x) → V' x = V x) ∧ (∃ m_fr1 : Int32, ∃ m_bh1 : Int32, ∃ m_hd1 : Int32, ∃ m_ft1 : Int32, ∃ m_fa1 : Int32, ∃ rh1 : hm_Rh, V' (mo) = some (.inr (13, hm_o q (m_tp) (m_sz) (m_fr1) (m_bh1) (m_hd1) (m_ft1) (m_fa1) (m_le) (m_fo) (m_as) (m_fd) (m_bc) (m_bg) (m_bs) (m_be) (m_b0) (m_b1) (m_cm) (m_hc))) ∧ (hx_F w (sp_prs w 9000 0 ([], [], [], [])).1 (sp_prs w 9000 0 ([], [], [], [])).2.1 m_ft1 m_fa1) ∧ (hm_AR cs V' q rh1) ∧ (hm_H rh rh1)))) 0 0 := by
  refine hq_walk (R0 := RX13) (by decide) rfl ?_ (Nat.le_of_ble_eq_true rfl)
  intro p e s m below meth c ls hx hb hr hts hown hlocks hin hml hnx hZ hl
  have hP : hq_P cs G (fun _ => true) V V := hq_P.rf hI
  have hl : lv_has ls 1 [(0, .ref (mo))] := hl
  have hb_m_tp := hq_rng m_tp
  have hb_m_sz := hq_rng m_sz
  have hb_m_fr := hq_rng m_fr
  have hb_m_bh := hq_rng m_bh
  have hb_m_hd := hq_rng m_hd
  have hb_m_ft := hq_rng m_ft
  have hb_m_fa := hq_rng m_fa
  have hb_m_le := hq_rng m_le
  have hb_m_fo := hq_rng m_fo
  have hb_m_as := hq_rng m_as
  have hb_m_fd := hq_rng m_fd
  have hb_m_bc := hq_rng m_bc
  have hb_m_bg := hq_rng m_bg
  have hb_m_bs := hq_rng m_bs
  have hb_m_be := hq_rng m_be
  have hb_m_b0 := hq_rng m_b0
  have hb_m_b1 := hq_rng m_b1
  have hb_m_cm := hq_rng m_cm
  have hb_m_hc := hq_rng m_hc
  have hH0 : hm_H rh rh := hm_H.rf
  have hz9 := hm_TP.ok hp0
  have hz8 := hz9.1
  refine lv_aload_n hx hb dX13_readBook_0 rfl (lv_at hl 0 rfl) ?_
  refine hp_get (v := .ref (q)) hx hb hts hown hZ hc0 fl_X13_1 rfl dX13_readBook_1 ?_
  refine lv_iconst (v := 1) hx hb dX13_readBook_4 (by decide) ?_
  refine lv_iconst (v := 0) hx hb dX13_readBook_5 (by decide) ?_
  obtain ⟨rf1, hrf2⟩ : ∃ f : Nat → Int32, f = rh 0 := ⟨_, rfl⟩
  have ea3 : V (q) = some (.inl (cs 1, 2, .inl (rf1))) := by rw [hrf2]; exact hp1 0 (by decide)
  have hra4 := hq_rg hP.1 (hr_0 hR) ea3
  refine hp_iast hx hb hZ ea3 (by unfold vp_in; decide) dX13_readBook_6 (fun V5 _ _ e6 o7 hZ => ?_)
  have e6 : V5 (q) = some (.inl (cs 1, 2, .inl (upd (rf1) ((1 : Int32).toNatClampNeg) (0)))) := e6
  have hl8 : (0 : Int32).toInt = 0 := by decide
  have hP := hP.put (hr_0 hR) e6 o7 (hq_c21 (by omega) (hq_upd hra4 (show 0 ≤ _ ∧ _ ≤ 6 by constructor <;> omega))) rfl
  obtain ⟨g9, ge10⟩ : ∃ g9 : Nat → Int32, g9 = upd (rf1) ((1 : Int32).toNatClampNeg) (0) := ⟨_, rfl⟩
  have fx11 : V5 (q) = some (.inl (cs 1, 2, .inl (g9))) := by rw [ge10]; exact e6
  have hf12 := hq_rg hP.1 (hr_0 hR) fx11
  obtain ⟨rh13, hrh14⟩ : ∃ r9 : hm_Rh, r9 = hm_u2 rh 0 (1 : Int32).toNatClampNeg ((0 : Int32)) := ⟨_, rfl⟩
  have pk15 : hm_AR cs V5 q rh13 := by rw [hrh14]; exact hp1.put (a := 0) (by decide) (by rw [ge10, hrf2]) fx11 o7
  have hH16 : hm_H rh rh13 := by rw [hrh14]; exact hH0.put (show 1 ≤ (1 : Int32).toNatClampNeg by have h8 := (hq_nn (z := 1) (by omega)).1; omega)
  refine lv_aload_n hx hb dX13_readBook_7 rfl (lv_at hl 0 rfl) ?_
  have fx17 : V5 (mo) = some (.inr (13, hm_o q (m_tp) (m_sz) (m_fr) (m_bh) (m_hd) (m_ft) (m_fa) (m_le) (m_fo) (m_as) (m_fd) (m_bc) (m_bg) (m_bs) (m_be) (m_b0) (m_b1) (m_cm) (m_hc))) := (o7 (mo) (hq_tne hmo (hr_0 hR) (by simp))).trans (hc0)
  refine hp_get (v := .ref (q + 1)) hx hb hts hown hZ fx17 fl_X13_7 rfl dX13_readBook_8 ?_
  refine lv_iconst (v := 1) hx hb dX13_readBook_11 (by decide) ?_
  refine lv_iconst (v := 0) hx hb dX13_readBook_12 (by decide) ?_
  obtain ⟨rf18, hrf19⟩ : ∃ f : Nat → Int32, f = rh13 1 := ⟨_, rfl⟩
  have ea20 : V5 (q + 1) = some (.inl (cs 1, 2, .inl (rf18))) := by rw [hrf19]; exact pk15 1 (by decide)
  have hra21 := hq_rg hP.1 (hr_1 hR) ea20
  refine hp_iast hx hb hZ ea20 (by unfold vp_in; decide) dX13_readBook_13 (fun V22 _ _ e23 o24 hZ => ?_)
  have e23 : V22 (q + 1) = some (.inl (cs 1, 2, .inl (upd (rf18) ((1 : Int32).toNatClampNeg) (0)))) := e23
  have hl25 : (0 : Int32).toInt = 0 := by decide
  have hP := hP.put (hr_1 hR) e23 o24 (hq_c21 (by omega) (hq_upd hra21 (show 0 ≤ _ ∧ _ ≤ 30 by constructor <;> omega))) rfl
  obtain ⟨g26, ge27⟩ : ∃ g9 : Nat → Int32, g9 = upd (rf18) ((1 : Int32).toNatClampNeg) (0) := ⟨_, rfl⟩
  have fx28 : V22 (q + 1) = some (.inl (cs 1, 2, .inl (g26))) := by rw [ge27]; exact e23
  have hf29 := hq_rg hP.1 (hr_1 hR) fx28
  obtain ⟨rh30, hrh31⟩ : ∃ r9 : hm_Rh, r9 = hm_u2 rh13 1 (1 : Int32).toNatClampNeg ((0 : Int32)) := ⟨_, rfl⟩
  have pk32 : hm_AR cs V22 q rh30 := by rw [hrh31]; exact pk15.put (a := 1) (by decide) (by rw [ge27, hrf19]) fx28 o24
  have hH33 : hm_H rh rh30 := by rw [hrh31]; exact hH16.put (show 1 ≤ (1 : Int32).toNatClampNeg by have h8 := (hq_nn (z := 1) (by omega)).1; omega)
  refine lv_aload_n hx hb dX13_readBook_14 rfl (lv_at hl 0 rfl) ?_
  have fx34 : V22 (mo) = some (.inr (13, hm_o q (m_tp) (m_sz) (m_fr) (m_bh) (m_hd) (m_ft) (m_fa) (m_le) (m_fo) (m_as) (m_fd) (m_bc) (m_bg) (m_bs) (m_be) (m_b0) (m_b1) (m_cm) (m_hc))) := (o24 (mo) (hq_tne hmo (hr_1 hR) (by simp))).trans (fx17)
  refine hp_get (v := .ref (q + 2)) hx hb hts hown hZ fx34 fl_X13_10 rfl dX13_readBook_15 ?_
  refine lv_iconst (v := 1) hx hb dX13_readBook_18 (by decide) ?_
  refine lv_iconst (v := 0) hx hb dX13_readBook_19 (by decide) ?_
  obtain ⟨rf35, hrf36⟩ : ∃ f : Nat → Int32, f = rh30 2 := ⟨_, rfl⟩
  have ea37 : V22 (q + 2) = some (.inl (cs 1, 2, .inl (rf35))) := by rw [hrf36]; exact pk32 2 (by decide)
  have hra38 := hq_rg hP.1 (hr_2 hR) ea37
  refine hp_iast hx hb hZ ea37 (by unfold vp_in; decide) dX13_readBook_20 (fun V39 _ _ e40 o41 hZ => ?_)
  have e40 : V39 (q + 2) = some (.inl (cs 1, 2, .inl (upd (rf35) ((1 : Int32).toNatClampNeg) (0)))) := e40
  have hl42 : (0 : Int32).toInt = 0 := by decide
  have hP := hP.put (hr_2 hR) e40 o41 (hq_c21 (by omega) (hq_upd hra38 (show 0 ≤ _ ∧ _ ≤ 60 by constructor <;> omega))) rfl
  obtain ⟨g43, ge44⟩ : ∃ g9 : Nat → Int32, g9 = upd (rf35) ((1 : Int32).toNatClampNeg) (0) := ⟨_, rfl⟩
  have fx45 : V39 (q + 2) = some (.inl (cs 1, 2, .inl (g43))) := by rw [ge44]; exact e40
  have hf46 := hq_rg hP.1 (hr_2 hR) fx45
  obtain ⟨rh47, hrh48⟩ : ∃ r9 : hm_Rh, r9 = hm_u2 rh30 2 (1 : Int32).toNatClampNeg ((0 : Int32)) := ⟨_, rfl⟩
  have pk49 : hm_AR cs V39 q rh47 := by rw [hrh48]; exact pk32.put (a := 2) (by decide) (by rw [ge44, hrf36]) fx45 o41
  have hH50 : hm_H rh rh47 := by rw [hrh48]; exact hH33.put (show 1 ≤ (1 : Int32).toNatClampNeg by have h8 := (hq_nn (z := 1) (by omega)).1; omega)
  refine lv_aload_n hx hb dX13_readBook_21 rfl (lv_at hl 0 rfl) ?_
  refine lv_iconst (v := 0) hx hb dX13_readBook_22 (by decide) ?_
  have fx51 : V39 (mo) = some (.inr (13, hm_o q (m_tp) (m_sz) (m_fr) (m_bh) (m_hd) (m_ft) (m_fa) (m_le) (m_fo) (m_as) (m_fd) (m_bc) (m_bg) (m_bs) (m_be) (m_b0) (m_b1) (m_cm) (m_hc))) := (o41 (mo) (hq_tne hmo (hr_2 hR) (by simp))).trans (fx34)
  refine hp_put hx hb hts hown hZ fx51 fp_X13_76 rfl rfl (Nat.le_of_ble_eq_true rfl) dX13_readBook_23 (fun V52 _ _ e53 o54 hZ => ?_)
  have e53 : V52 (mo) = some (.inr (13, hm_o q (m_tp) (m_sz) (m_fr) (0) (m_hd) (m_ft) (m_fa) (m_le) (m_fo) (m_as) (m_fd) (m_bc) (m_bg) (m_bs) (m_be) (m_b0) (m_b1) (m_cm) (m_hc))) := e53
  have hP := hP.put hmo e53 o54 (trivial) rfl
  refine lv_aload_n hx hb dX13_readBook_26 rfl (lv_at hl 0 rfl) ?_
  have hl55 : (0 : Int32).toInt = 0 := by decide
  have pk56 := hp0.keep ((o54 (q + 20) (hq_tne (hr_20 hR) hmo (by simp))).trans ((o41 (q + 20) (hq_tne (hr_20 hR) (hr_2 hR) (by simp))).trans ((o24 (q + 20) (hq_tne (hr_20 hR) (hr_1 hR) (by simp))).trans (o7 (q + 20) (hq_tne (hr_20 hR) (hr_0 hR) (by simp))))))
  refine hp_callv (hp_runV (As := []) (rest := []) hx hb hml hown hts (y_scan l D cs B G V52 n hP.1 (q) (mo) (w) (0) (m_tp) (m_sz) (m_fr) (0) (m_hd) (m_ft) (m_fa) (m_le) (m_fo) (m_as) (m_fd) (m_bc) (m_bg) (m_bs) (m_be) (m_b0) (m_b1) (m_cm) (m_hc)  e53 pk56 hR hmo (by omega) (by decide) ⟨show (0 : Int) ≤ 0 by decide, show (0 : Int) ≤ w.2 by omega⟩) hZ e53 cv_X13_111 rfl rfl ⟨Nat.le_of_ble_eq_true rfl, Nat.le_of_ble_eq_true rfl⟩ rfl hl.1 rfl (Nat.le_of_ble_eq_true rfl) dX13_readBook_27 ⟨(Nat.le_of_ble_eq_true rfl), (Nat.le_of_ble_eq_true rfl)⟩) hZ (fun V57 n58 _ _ hw59 hZ => ?_)
  obtain ⟨rfl, hq61, fr62, z63, z64, z65, ho66, hp67, hp68⟩ := hw59
  have b69 := hq_rng z63
  have b70 := hq_rng z64
  have b71 := hq_rng z65
  have hP := hP.trans hq61 (fun _ h => Bool.noConfusion h)
  obtain ⟨b72, b73, b74, -⟩ := id hp67
  have pk76 := pk56.keep (fr62 (q + 20) (hq_tne (hr_20 hR) hmo (by simp)))
  have pk78 := pk49.keep (fun x7 (hx7 : q ≤ x7 ∧ x7 < q + 19) => (fr62 x7 (by omega)).trans (o54 x7 (by omega)))
  suffices lp30 : ∀ (k9 : Nat) (V9 : hp_V) (H9 : Heap) (locs9 : List Loc) (ls : Array Slot)  (j : Nat) (cl : List Nat) (vn : List Nat) (vc : List Int) (lz : List sp_L) (kf : Nat) (rh9 : hm_Rh) (fr9 : Int32) (bh9 : Int32) (hd9 : Int32), (((9000 - j : Nat) : Int)).toNat = k9 → hp_Z D cs B s V9 H9 n locs9 → hq_P cs G (fun _ => true) V V9 → V9 (mo) = some (.inr (13, hm_o q (m_tp) (m_sz) (fr9) (bh9) (hd9) (m_ft) (m_fa) (m_le) (m_fo) (m_as) (m_fd) (m_bc) (m_bg) (m_bs) (m_be) (m_b0) (m_b1) (m_cm) (m_hc))) → (∀ x, x ≠ mo → (x < q ∨ q + 19 ≤ x) → V9 x = V x) → hm_TP cs V9 q w → hm_AR cs V9 q rh9 → (hm_A w j fr9 bh9 hd9) → (hm_DR rh9 w (cl, vn, vc, lz)) → (hm_H rh rh9) → 9000 ≤ kf + j → (sp_prs w kf j (cl, vn, vc, lz) = sp_prs w 9000 0 ([], [], [], [])) → lv_has ls 1 [(0, .ref (mo))] → W p l e ({ frames := 12, cells := 0, slots := 0, locals := 256 }) s m ([.ref (mo)] : List Value).toArray below meth c H9 locs9 0 0 (hq_MQ below (hq_QX D cs B (fun v V' n' => v = none ∧ n = n' ∧ hq_P cs G (fun _ => true) V V' ∧ (∀ x, x ≠ mo → (x < q ∨ q + 19 ≤ x) → V' x = V x) ∧ (∃ m_fr1 : Int32, ∃ m_bh1 : Int32, ∃ m_hd1 : Int32, ∃ rh1 : hm_Rh, V' (mo) = some (.inr (13, hm_o q (m_tp) (m_sz) (m_fr1) (m_bh1) (m_hd1) (m_ft) (m_fa) (m_le) (m_fo) (m_as) (m_fd) (m_bc) (m_bg) (m_bs) (m_be) (m_b0) (m_b1) (m_cm) (m_hc))) ∧ ((sp_prs w 9000 0 ([], [], [], [])).1 = 0 ∧ hm_DR rh1 w (sp_prs w 9000 0 ([], [], [], [])).2.2) ∧ (hm_AR cs V' q rh1) ∧ (hm_H rh rh1))) (fun x V' n' => x = q + 19 ∧ n = n' ∧ hq_P cs G (fun _ => true) V V' ∧ (∀ x, x ≠ mo → (x < q ∨ q + 19 ≤ x) → V' x = V x) ∧ (∃ m_fr1 : Int32, ∃ m_bh1 : Int32, ∃ m_hd1 : Int32, ∃ m_ft1 : Int32, ∃ m_fa1 : Int32, ∃ rh1 : hm_Rh, V' (mo) = some (.inr (13, hm_o q (m_tp) (m_sz) (m_fr1) (m_bh1) (m_hd1) (m_ft1) (m_fa1) (m_le) (m_fo) (m_as) (m_fd) (m_bc) (m_bg) (m_bs) (m_be) (m_b0) (m_b1) (m_cm) (m_hc))) ∧ (hx_F w (sp_prs w 9000 0 ([], [], [], [])).1 (sp_prs w 9000 0 ([], [], [], [])).2.1 m_ft1 m_fa1) ∧ (hm_AR cs V' q rh1) ∧ (hm_H rh rh1)))) ([.ref (mo)] : List Value).toArray s 0 0 (hp_F B)) (F0 m 30 ls []) from lp30 _ _ _ _ ls  (0) ([]) ([]) ([]) ([]) (9000) (rh47) (z63) (z64) (z65) rfl hZ hP ho66 (fun x8 hne0 hne1 => (fr62 x8 hne0).trans ((o54 x8 hne0).trans ((o41 x8 (by omega)).trans ((o24 x8 (by omega)).trans (o7 x8 (by omega)))))) pk76 pk78 (hp67) (hm_DR.nil (by show (rh47 0 (1 : Int32).toNatClampNeg).toInt = 0; rw [hrh48, hm_u2a (by decide), hrh31, hm_u2a (by decide), hrh14, hm_u2e]; decide) (by show (rh47 1 (1 : Int32).toNatClampNeg).toInt = 0; rw [hrh48, hm_u2a (by decide), hrh31, hm_u2e]; decide) (by show (rh47 2 (1 : Int32).toNatClampNeg).toInt = 0; rw [hrh48, hm_u2e]; decide)) (hH50) (by omega) (rfl) (lv_sub hl [0] rfl)
  intro k9
  induction k9 using Nat.strongRecOn with
  | _ k9 ih30 =>
    intro V9 H9 locs9 ls  j cl vn vc lz kf rh9 fr9 bh9 hd9 hk30 hZ hP ho75 fr30 pk77 pk79 hA hDR hH9 hv80 hprs hl
    have hb_fr9 := hq_rng fr9
    have hb_bh9 := hq_rng bh9
    have hb_hd9 := hq_rng hd9
    obtain ⟨b81, b82, b83, -⟩ := id hA
    have ht9 := sp_tok (w := w) (j := j) hA.1
    have hm9 := sp_s_mono w 0 j
    rw [Nat.zero_add] at hm9
    have hm8 := (sp_tok (w := w) (j := 0) ⟨show (0 : Int) ≤ 0 by decide, show (0 : Int) ≤ w.2 by omega⟩).1
    have hh0 := sp_h_0 (sp_k w j)
    refine lv_aload_n hx hb dX13_readBook_30 rfl (lv_at hl 0 rfl) ?_
    refine hp_get (v := .int (hd9)) hx hb hts hown hZ ho75 fl_X13_83 rfl dX13_readBook_31 ?_
    refine lv_if_eq (tgt := 62) hx hb dX13_readBook_34 (by decide) (fun c84 => ?_) (fun c84 => ?_)
    · have c84 : (hd9).toInt = (0 : Int) := hq_eqi.mp c84
      exact hq_vret hx hb hr hlocks hZ ⟨rfl, rfl, hP, (fun x8 hne0 hne1 => fr30 x8 hne0 hne1), fr9, bh9, hd9, rh9, ho75, (by rw [← hprs, show kf = (kf - 1) + 1 by omega, sp_prs_end (by omega)]; exact ⟨rfl, hDR⟩), pk79, hH9⟩ dX13_readBook_62
    · have c84 : ¬ (hd9).toInt = (0 : Int) := fun h9 => c84 (hq_eqi.mpr h9)
      refine lv_aload_n hx hb dX13_readBook_37 rfl (lv_at hl 0 rfl) ?_
      refine hq_callx (hq_runV (As := []) (rest := []) hx hb hml hown hts (y_readItem l D cs B G V9 n hP.1 (q) (mo) (w) (rh9) (j) (cl) (vn) (vc) (lz) (m_tp) (m_sz) (fr9) (bh9) (hd9) (m_ft) (m_fa) (m_le) (m_fo) (m_as) (m_fd) (m_bc) (m_bg) (m_bs) (m_be) (m_b0) (m_b1) (m_cm) (m_hc)  ho75 pk77 pk79 hR hmo hmq (by omega) hA hDR) hZ ho75 cv_X13_169 rfl rfl ⟨Nat.le_of_ble_eq_true rfl, Nat.le_of_ble_eq_true rfl⟩ rfl hl.1 rfl (Nat.le_of_ble_eq_true rfl) dX13_readBook_38 ⟨(Nat.le_of_ble_eq_true rfl), (Nat.le_of_ble_eq_true rfl)⟩) hZ hnx hlocks (by rintro x9 V9x n9 ⟨rfl, rfl, hqx, frx, zx91, zx92, zx93, zx94, zx95, zx96, hox97, hpx98, hpx99, hpx100⟩; have b101 := hq_rng zx91; have b102 := hq_rng zx92; have b103 := hq_rng zx93; have b104 := hq_rng zx94; have b105 := hq_rng zx95; exact ⟨rfl, rfl, hP.trans hqx (fun _ h => Bool.noConfusion h), (fun x8 hne0 hne1 => (frx x8 hne0 hne1).trans (fr30 x8 hne0 hne1)), zx91, zx92, zx93, zx94, zx95, zx96, hox97, (by rw [← hprs, show kf = (kf - 1) + 1 by omega, sp_prs_bad (b := (cl, vn, vc, lz)) (by omega) hpx98.1]; exact hpx98), hpx99, (hH9.trans hpx100)⟩) (fun v9 V85 n86 _ _ hw87 hZ => ?_)
      obtain ⟨rfl, rfl, hq89, fr90, z106, z107, z108, u109, ho110, hp111, hp112, hp113⟩ := hw87
      refine W.eq (g2 := F0 m 41 ls []) rfl ?_
      have b114 := hq_rng z106
      have b115 := hq_rng z107
      have b116 := hq_rng z108
      have hP := hP.trans hq89 (fun _ h => Bool.noConfusion h)
      obtain ⟨b117, hA118, hd119⟩ := hp111
      have hge := sp_item_ge (w := w) (j := j) (cl, vn, vc, lz)
      have hH120 := hH9.trans hp113
      obtain ⟨b121, b122, b123, -⟩ := id hA118
      have b124 := sp_h_4 (sp_k w (sp_item w (cl, vn, vc, lz) j).2.1)
      refine lv_aload_n hx hb dX13_readBook_41 rfl (lv_at hl 0 rfl) ?_
      refine hp_get (v := .int (z108)) hx hb hts hown hZ ho110 fl_X13_83 rfl dX13_readBook_42 ?_
      refine lv_iconst (v := 4) hx hb dX13_readBook_45 (by decide) ?_
      refine lv_icmp_eq (tgt := 55) hx hb dX13_readBook_46 (by decide) (fun c125 => ?_) (fun c125 => ?_)
      · have c125 : (z108).toInt = (4 : Int) := hq_eqi.mp c125
        refine lv_aload_n hx hb dX13_readBook_55 rfl (lv_at hl 0 rfl) ?_
        have pk126 := pk77.keep (fr90 (q + 20) (hq_tne (hr_20 hR) hmo (by simp)) (by omega))
        refine hp_callv (hp_runV (As := []) (rest := []) hx hb hml hown hts (y_next l D cs B G V85 n hP.1 (q) (mo) (w) ((sp_item w (cl, vn, vc, lz) j).2.1) (m_tp) (m_sz) (z106) (z107) (z108) (m_ft) (m_fa) (m_le) (m_fo) (m_as) (m_fd) (m_bc) (m_bg) (m_bs) (m_be) (m_b0) (m_b1) (m_cm) (m_hc)  ho110 pk126 hR hmo hmq (by omega) hA118 (by omega)) hZ ho110 cv_X13_111 rfl rfl ⟨Nat.le_of_ble_eq_true rfl, Nat.le_of_ble_eq_true rfl⟩ rfl hl.1 rfl (Nat.le_of_ble_eq_true rfl) dX13_readBook_56 ⟨(Nat.le_of_ble_eq_true rfl), (Nat.le_of_ble_eq_true rfl)⟩) hZ (fun V127 n128 _ _ hw129 hZ => ?_)
        obtain ⟨rfl, hq131, fr132, z133, z134, z135, ho136, hp137, hp138⟩ := hw129
        have b139 := hq_rng z133
        have b140 := hq_rng z134
        have b141 := hq_rng z135
        have hP := hP.trans hq131 (fun _ h => Bool.noConfusion h)
        obtain ⟨b142, b143, b144, -⟩ := id hp137
        refine lv_goto (tgt := 30) hx hb dX13_readBook_59 (by decide) ?_
        have pk145 := pk126.keep (fr132 (q + 20) (hq_tne (hr_20 hR) hmo (by simp)))
        have pk146 := hp112.keep (fun x7 (hx7 : q ≤ x7 ∧ x7 < q + 19) => fr132 x7 (by omega))
        exact ih30 _ (by omega) _ _ _ ls  ((sp_item w (cl, vn, vc, lz) j).2.1 + 1) ((sp_item w (cl, vn, vc, lz) j).2.2.1) ((sp_item w (cl, vn, vc, lz) j).2.2.2.1) ((sp_item w (cl, vn, vc, lz) j).2.2.2.2.1) ((sp_item w (cl, vn, vc, lz) j).2.2.2.2.2) (kf - 1) (u109) (z133) (z134) (z135) rfl hZ hP ho136 (fun x8 hne0 hne1 => (fr132 x8 hne0).trans ((fr90 x8 hne0 hne1).trans (fr30 x8 hne0 hne1))) pk145 pk146 (hp137) (hd119) (hH120) (by omega) (by rw [← hprs, show kf = (kf - 1) + 1 by omega, sp_prs_ok (b := (cl, vn, vc, lz)) (by omega) (by omega) (by rw [(sp_take_y (w := w) (d := 20) (j := (sp_item w (cl, vn, vc, lz) j).2.1) (by omega)).1]), (sp_take_y (w := w) (d := 20) (j := (sp_item w (cl, vn, vc, lz) j).2.1) (by omega)).2]; rfl) (lv_sub hl [0] rfl)
      · have c125 : ¬ (z108).toInt = (4 : Int) := fun h9 => c125 (hq_eqi.mpr h9)
        refine lv_aload_n hx hb dX13_readBook_49 rfl (lv_at hl 0 rfl) ?_
        refine lv_iconst (v := 1) hx hb dX13_readBook_50 (by decide) ?_
        have hl147 : (1 : Int32).toInt = 1 := by decide
        refine hp_callq (hp_runV (As := [.int (1)]) (rest := []) hx hb hml hown hts (y_wrong l D cs B G V85 n hP.1 (q) (mo) (m_tp) (m_sz) (z106) (z107) (z108) (m_ft) (m_fa) (m_le) (m_fo) (m_as) (m_fd) (m_bc) (m_bg) (m_bs) (m_be) (m_b0) (m_b1) (m_cm) (m_hc) (1)  ho110  hR hmo hmq) hZ ho110 cv_X13_107 rfl rfl ⟨Nat.le_of_ble_eq_true rfl, Nat.le_of_ble_eq_true rfl⟩ rfl hl.1 rfl (Nat.le_of_ble_eq_true rfl) dX13_readBook_51 ⟨(Nat.le_of_ble_eq_true rfl), (Nat.le_of_ble_eq_true rfl)⟩) hZ (fun r151 V148 n149 _ _ hw150 hZ => ?_)
        obtain ⟨rfl, hq152, fr153, ho154, hp155⟩ := hw150
        have hP := hP.trans hq152 (fun _ h => Bool.noConfusion h)
        subst hp155
        refine W.eq (g2 := F0 m 54 ls [.ref (q + 19)]) rfl ?_
        have hl156 : (1 : Int32).toInt = 1 := by decide
        obtain ⟨hs91, hs92⟩ := sp_take_n (w := w) (d := 20) (j := (sp_item w (cl, vn, vc, lz) j).2.1) (by omega)
        have hs93 : sp_s w (sp_take w 20 (sp_item w (cl, vn, vc, lz) j).2.1).2 = sp_s w (sp_item w (cl, vn, vc, lz) j).2.1 := by rw [hs92]
        have pk157 := hp112.keep (fun x7 (hx7 : q ≤ x7 ∧ x7 < q + 19) => fr153 x7 (by omega))
        exact hq_athrow hx hb hnx hlocks hZ ⟨rfl, rfl, hP, (fun x8 hne0 hne1 => (fr153 x8 hne0).trans ((fr90 x8 hne0 hne1).trans (fr30 x8 hne0 hne1))), z106, z107, z108, 1, z106, u109, ho154, (by rw [← hprs, show kf = (kf - 1) + 1 by omega, sp_prs_semi (b := (cl, vn, vc, lz)) (by omega) (by omega) (by omega)]; exact ⟨by omega, by omega, by omega⟩), pk157, hH120⟩ dX13_readBook_54

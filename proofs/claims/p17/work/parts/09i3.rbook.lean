set_option maxHeartbeats 4000000 in
set_option maxRecDepth 100000 in
theorem y_readBook (l : Launch) (D : va_G) (cs : Nat → ClassId) (B : Nat) (G : hq_G) (V : hp_V) (n : Nat) (hI : hq_I cs G V) (q : Nat) (mo : Nat) (w : sp_W) (rh : hm_Rh) (m_tp : Int32) (m_sz : Int32) (m_fr : Int32) (m_bh : Int32) (m_hd : Int32) (m_ft : Int32) (m_fa : Int32) (m_le : Int32) (m_fo : Int32) (m_as : Int32) (m_fd : Int32) (m_bc : Int32) (m_bg : Int32) (m_bs : Int32) (m_be : Int32) (m_b0 : Int32) (m_b1 : Int32) (m_cm : Int32) (m_hc : Int32) (hc0 : V (mo) = some (.inr (13, hm_o q (m_tp) (m_sz) (m_fr) (m_bh) (m_hd) (m_ft) (m_fa) (m_le) (m_fo) (m_as) (m_fd) (m_bc) (m_bg) (m_bs) (m_be) (m_b0) (m_b1) (m_cm) (m_hc)))) (hp0 : hm_TP cs V q w) (hp1 : hm_AR cs V q rh) (hR : hq_RT G q) (hmo : G mo = some (24, 0, 0, 0)) (hmq : mo < q) (hsz : m_sz.toInt = w.2) : hq_M l yX13_readBook cX13_readBook 1 none ({ frames := 12, cells := 0, slots := 0, locals := 256 }) D cs B V n [.ref (mo)] (hq_QX D cs B (fun v V' n' => v = none ∧ n = n' ∧ hq_P cs G (fun _ => true) V V' ∧ (∀ x, x ≠ mo → (x < q ∨ q + 19 ≤ x) → V' x = V x) ∧ (∃ m_fr1 : Int32, ∃ m_bh1 : Int32, ∃ m_hd1 : Int32, ∃ rh1 : hm_Rh, V' (mo) = some (.inr (13, hm_o q (m_tp) (m_sz) (m_fr1) (m_bh1) (m_hd1) (m_ft) (m_fa) (m_le) (m_fo) (m_as) (m_fd) (m_bc) (m_bg) (m_bs) (m_be) (m_b0) (m_b1) (m_cm) (m_hc))) ∧ ((sp_prs w 9000 0 ([], [], [], [])).1 = 0 ∧ hm_DR rh1 w (sp_prs w 9000 0 ([], [], [], [])).2.2) ∧ (hm_AR cs V' q rh1) ∧ (hm_H rh rh1))) (fun x V' n' => x = q + 19 ∧ n = n' ∧ hq_P cs G (fun _ => true) V V' ∧ (∀ x, x ≠ mo → (x < q ∨ q + 19 ≤ x) → V' x = V x) ∧ (∃ m_fr1 : Int32, ∃ m_bh1 : Int32, ∃ m_hd1 : Int32, ∃ m_ft1 : Int32, ∃ m_fa1 : Int32, ∃ rh1 : hm_Rh, V' (mo) = some (.inr (13, hm_o q (m_tp) (m_sz) (m_fr1) (m_bh1) (m_hd1) (m_ft1) (m_fa1) (m_le) (m_fo) (m_as) (m_fd) (m_bc) (m_bg) (m_bs) (m_be) (m_b0) (m_b1) (m_cm) (m_hc))) ∧ (hx_F w (sp_prs w 9000 0 ([], [], [], [])).1 (sp_prs w 9000 0 ([], [], [], [])).2.1 m_ft1 m_fa1) ∧ (hm_AR cs V' q rh1) ∧ (hm_H rh rh1)))) 0 0 := by
  refine hq_walk (R0 := RX13) (by decide) rfl ?_ (Nat.le_of_ble_eq_true rfl)
  intro p e s m below meth c ls hx hb hr hts hown hlocks hin hml hnx hZ hl
  have hP : hq_P cs G (fun _ => true) V V := hq_P.rf hI
  have hl : lv_has ls 1 [(0, .ref (mo))] := hl
  have hb_m_tp := hq_rng m_tp
  have hb_m_sz := hq_rng m_sz
  have hb_m_fr := hq_rng m_fr
  have hb_m_bh := hq_rng m_bh
  have hb_m_hd := hq_rng m_hd
  have hb_m_ft := hq_rng m_ft
  have hb_m_fa := hq_rng m_fa
  have hb_m_le := hq_rng m_le
  have hb_m_fo := hq_rng m_fo
  have hb_m_as := hq_rng m_as
  have hb_m_fd := hq_rng m_fd
  have hb_m_bc := hq_rng m_bc
  have hb_m_bg := hq_rng m_bg
  have hb_m_bs := hq_rng m_bs
  have hb_m_be := hq_rng m_be
  have hb_m_b0 := hq_rng m_b0
  have hb_m_b1 := hq_rng m_b1
  have hb_m_cm := hq_rng m_cm
  have hb_m_hc := hq_rng m_hc
  have hH0 : hm_H rh rh := hm_H.rf
  have hl1 : (1 : Int32).toInt = 1 := by decide
  have hl2 : (0 : Int32).toInt = 0 := by decide
  have hz9 := hm_TP.ok hp0
  have hz8 := hz9.1
  refine lv_aload_n hx hb dX13_readBook_0 rfl (lv_at hl 0 rfl) ?_
  refine hp_get (v := .ref (q)) hx hb hts hown hZ hc0 fl_X13_1 rfl dX13_readBook_1 ?_
  refine lv_iconst (v := 1) hx hb dX13_readBook_4 (by decide) ?_
  refine lv_iconst (v := 0) hx hb dX13_readBook_5 (by decide) ?_
  obtain ⟨rf3, hrf4⟩ : ∃ f : Nat → Int32, f = rh 0 := ⟨_, rfl⟩
  have ea5 : V (q) = some (.inl (cs 1, 2, .inl (rf3))) := by rw [hrf4]; exact hp1 0 (by decide)
  have hra6 := hq_rg hP.1 (hr_0 hR) ea5
  refine hp_iast hx hb hZ ea5 (by unfold vp_in; decide) dX13_readBook_6 (fun V7 _ _ e8 o9 hZ => ?_)
  have e8 : V7 (q) = some (.inl (cs 1, 2, .inl (upd (rf3) ((1 : Int32).toNatClampNeg) (0)))) := e8
  have hl10 : (0 : Int32).toInt = 0 := by decide
  have hP := hP.put (hr_0 hR) e8 o9 (hq_c21 (by omega) (hq_upd hra6 (show 0 ≤ _ ∧ _ ≤ 6 by constructor <;> omega))) rfl
  obtain ⟨g11, ge12⟩ : ∃ g9 : Nat → Int32, g9 = upd (rf3) ((1 : Int32).toNatClampNeg) (0) := ⟨_, rfl⟩
  have fx13 : V7 (q) = some (.inl (cs 1, 2, .inl (g11))) := by rw [ge12]; exact e8
  have hf14 := hq_rg hP.1 (hr_0 hR) fx13
  obtain ⟨rh15, hrh16⟩ : ∃ r9 : hm_Rh, r9 = hm_u2 rh 0 (1 : Int32).toNatClampNeg ((0 : Int32)) := ⟨_, rfl⟩
  have pk17 : hm_AR cs V7 q rh15 := by rw [hrh16]; exact hp1.put (a := 0) (by decide) (by rw [ge12, hrf4]) fx13 o9
  have hH18 : hm_H rh rh15 := by rw [hrh16]; exact hH0.put (show 1 ≤ (1 : Int32).toNatClampNeg by have h8 := (hq_nn (z := 1) (by omega)).1; omega)
  refine lv_aload_n hx hb dX13_readBook_7 rfl (lv_at hl 0 rfl) ?_
  have fx19 : V7 (mo) = some (.inr (13, hm_o q (m_tp) (m_sz) (m_fr) (m_bh) (m_hd) (m_ft) (m_fa) (m_le) (m_fo) (m_as) (m_fd) (m_bc) (m_bg) (m_bs) (m_be) (m_b0) (m_b1) (m_cm) (m_hc))) := (o9 (mo) (hq_tne hmo (hr_0 hR) (by simp))).trans (hc0)
  refine hp_get (v := .ref (q + 1)) hx hb hts hown hZ fx19 fl_X13_7 rfl dX13_readBook_8 ?_
  refine lv_iconst (v := 1) hx hb dX13_readBook_11 (by decide) ?_
  refine lv_iconst (v := 0) hx hb dX13_readBook_12 (by decide) ?_
  obtain ⟨rf20, hrf21⟩ : ∃ f : Nat → Int32, f = rh15 1 := ⟨_, rfl⟩
  have ea22 : V7 (q + 1) = some (.inl (cs 1, 2, .inl (rf20))) := by rw [hrf21]; exact pk17 1 (by decide)
  have hra23 := hq_rg hP.1 (hr_1 hR) ea22
  refine hp_iast hx hb hZ ea22 (by unfold vp_in; decide) dX13_readBook_13 (fun V24 _ _ e25 o26 hZ => ?_)
  have e25 : V24 (q + 1) = some (.inl (cs 1, 2, .inl (upd (rf20) ((1 : Int32).toNatClampNeg) (0)))) := e25
  have hl27 : (0 : Int32).toInt = 0 := by decide
  have hP := hP.put (hr_1 hR) e25 o26 (hq_c21 (by omega) (hq_upd hra23 (show 0 ≤ _ ∧ _ ≤ 30 by constructor <;> omega))) rfl
  obtain ⟨g28, ge29⟩ : ∃ g9 : Nat → Int32, g9 = upd (rf20) ((1 : Int32).toNatClampNeg) (0) := ⟨_, rfl⟩
  have fx30 : V24 (q + 1) = some (.inl (cs 1, 2, .inl (g28))) := by rw [ge29]; exact e25
  have hf31 := hq_rg hP.1 (hr_1 hR) fx30
  obtain ⟨rh32, hrh33⟩ : ∃ r9 : hm_Rh, r9 = hm_u2 rh15 1 (1 : Int32).toNatClampNeg ((0 : Int32)) := ⟨_, rfl⟩
  have pk34 : hm_AR cs V24 q rh32 := by rw [hrh33]; exact pk17.put (a := 1) (by decide) (by rw [ge29, hrf21]) fx30 o26
  have hH35 : hm_H rh rh32 := by rw [hrh33]; exact hH18.put (show 1 ≤ (1 : Int32).toNatClampNeg by have h8 := (hq_nn (z := 1) (by omega)).1; omega)
  refine lv_aload_n hx hb dX13_readBook_14 rfl (lv_at hl 0 rfl) ?_
  have fx36 : V24 (mo) = some (.inr (13, hm_o q (m_tp) (m_sz) (m_fr) (m_bh) (m_hd) (m_ft) (m_fa) (m_le) (m_fo) (m_as) (m_fd) (m_bc) (m_bg) (m_bs) (m_be) (m_b0) (m_b1) (m_cm) (m_hc))) := (o26 (mo) (hq_tne hmo (hr_1 hR) (by simp))).trans (fx19)
  refine hp_get (v := .ref (q + 2)) hx hb hts hown hZ fx36 fl_X13_10 rfl dX13_readBook_15 ?_
  refine lv_iconst (v := 1) hx hb dX13_readBook_18 (by decide) ?_
  refine lv_iconst (v := 0) hx hb dX13_readBook_19 (by decide) ?_
  obtain ⟨rf37, hrf38⟩ : ∃ f : Nat → Int32, f = rh32 2 := ⟨_, rfl⟩
  have ea39 : V24 (q + 2) = some (.inl (cs 1, 2, .inl (rf37))) := by rw [hrf38]; exact pk34 2 (by decide)
  have hra40 := hq_rg hP.1 (hr_2 hR) ea39
  refine hp_iast hx hb hZ ea39 (by unfold vp_in; decide) dX13_readBook_20 (fun V41 _ _ e42 o43 hZ => ?_)
  have e42 : V41 (q + 2) = some (.inl (cs 1, 2, .inl (upd (rf37) ((1 : Int32).toNatClampNeg) (0)))) := e42
  have hl44 : (0 : Int32).toInt = 0 := by decide
  have hP := hP.put (hr_2 hR) e42 o43 (hq_c21 (by omega) (hq_upd hra40 (show 0 ≤ _ ∧ _ ≤ 60 by constructor <;> omega))) rfl
  obtain ⟨g45, ge46⟩ : ∃ g9 : Nat → Int32, g9 = upd (rf37) ((1 : Int32).toNatClampNeg) (0) := ⟨_, rfl⟩
  have fx47 : V41 (q + 2) = some (.inl (cs 1, 2, .inl (g45))) := by rw [ge46]; exact e42
  have hf48 := hq_rg hP.1 (hr_2 hR) fx47
  obtain ⟨rh49, hrh50⟩ : ∃ r9 : hm_Rh, r9 = hm_u2 rh32 2 (1 : Int32).toNatClampNeg ((0 : Int32)) := ⟨_, rfl⟩
  have pk51 : hm_AR cs V41 q rh49 := by rw [hrh50]; exact pk34.put (a := 2) (by decide) (by rw [ge46, hrf38]) fx47 o43
  have hH52 : hm_H rh rh49 := by rw [hrh50]; exact hH35.put (show 1 ≤ (1 : Int32).toNatClampNeg by have h8 := (hq_nn (z := 1) (by omega)).1; omega)
  refine lv_aload_n hx hb dX13_readBook_21 rfl (lv_at hl 0 rfl) ?_
  refine lv_iconst (v := 0) hx hb dX13_readBook_22 (by decide) ?_
  have fx53 : V41 (mo) = some (.inr (13, hm_o q (m_tp) (m_sz) (m_fr) (m_bh) (m_hd) (m_ft) (m_fa) (m_le) (m_fo) (m_as) (m_fd) (m_bc) (m_bg) (m_bs) (m_be) (m_b0) (m_b1) (m_cm) (m_hc))) := (o43 (mo) (hq_tne hmo (hr_2 hR) (by simp))).trans (fx36)
  refine hp_put hx hb hts hown hZ fx53 fp_X13_76 rfl rfl (Nat.le_of_ble_eq_true rfl) dX13_readBook_23 (fun V54 _ _ e55 o56 hZ => ?_)
  have e55 : V54 (mo) = some (.inr (13, hm_o q (m_tp) (m_sz) (m_fr) (0) (m_hd) (m_ft) (m_fa) (m_le) (m_fo) (m_as) (m_fd) (m_bc) (m_bg) (m_bs) (m_be) (m_b0) (m_b1) (m_cm) (m_hc))) := e55
  have hP := hP.put hmo e55 o56 (trivial) rfl
  refine lv_aload_n hx hb dX13_readBook_26 rfl (lv_at hl 0 rfl) ?_
  have hl57 : (0 : Int32).toInt = 0 := by decide
  have pk58 := hp0.keep ((o56 (q + 20) (hq_tne (hr_20 hR) hmo (by simp))).trans ((o43 (q + 20) (hq_tne (hr_20 hR) (hr_2 hR) (by simp))).trans ((o26 (q + 20) (hq_tne (hr_20 hR) (hr_1 hR) (by simp))).trans (o9 (q + 20) (hq_tne (hr_20 hR) (hr_0 hR) (by simp))))))
  refine hp_callv (hp_runV (As := []) (rest := []) hx hb hml hown hts (y_scan l D cs B G V54 n hP.1 (q) (mo) (w) (0) (m_tp) (m_sz) (m_fr) (0) (m_hd) (m_ft) (m_fa) (m_le) (m_fo) (m_as) (m_fd) (m_bc) (m_bg) (m_bs) (m_be) (m_b0) (m_b1) (m_cm) (m_hc)  e55 pk58 hR hmo (by omega) rfl ⟨show (0 : Int) ≤ 0 by decide, show (0 : Int) ≤ w.2 by omega⟩) hZ e55 cv_X13_111 rfl rfl ⟨Nat.le_of_ble_eq_true rfl, Nat.le_of_ble_eq_true rfl⟩ rfl hl.1 rfl (Nat.le_of_ble_eq_true rfl) dX13_readBook_27 ⟨(Nat.le_of_ble_eq_true rfl), (Nat.le_of_ble_eq_true rfl)⟩) hZ (fun V59 n60 _ _ hw61 hZ => ?_)
  obtain ⟨rfl, hq63, fr64, z65, z66, z67, ho68, hp69, hp70⟩ := hw61
  have b71 := hq_rng z65
  have b72 := hq_rng z66
  have b73 := hq_rng z67
  have hP := hP.trans hq63 (fun _ h => Bool.noConfusion h)
  obtain ⟨b74, b75, b76, -⟩ := id hp69
  have pk78 := pk58.keep (fr64 (q + 20) (hq_tne (hr_20 hR) hmo (by simp)))
  have pk80 := pk51.keep (fun x7 (hx7 : q ≤ x7 ∧ x7 < q + 19) => (fr64 x7 (by omega)).trans (o56 x7 (by omega)))
  suffices lp30 : ∀ (k9 : Nat) (V9 : hp_V) (H9 : Heap) (locs9 : List Loc) (ls : Array Slot)  (j : Nat) (cl : List Nat) (vn : List Nat) (vc : List Int) (lz : List sp_L) (kf : Nat) (rh9 : hm_Rh) (fr9 : Int32) (bh9 : Int32) (hd9 : Int32), (((9000 - j : Nat) : Int)).toNat = k9 → hp_Z D cs B s V9 H9 n locs9 → hq_P cs G (fun _ => true) V V9 → V9 (mo) = some (.inr (13, hm_o q (m_tp) (m_sz) (fr9) (bh9) (hd9) (m_ft) (m_fa) (m_le) (m_fo) (m_as) (m_fd) (m_bc) (m_bg) (m_bs) (m_be) (m_b0) (m_b1) (m_cm) (m_hc))) → (∀ x, x ≠ mo → (x < q ∨ q + 19 ≤ x) → V9 x = V x) → hm_TP cs V9 q w → hm_AR cs V9 q rh9 → (hm_A w j fr9 bh9 hd9) → (hm_DR rh9 w (cl, vn, vc, lz)) → (hm_H rh rh9) → 9000 ≤ kf + j → (sp_prs w kf j (cl, vn, vc, lz) = sp_prs w 9000 0 ([], [], [], [])) → lv_has ls 1 [(0, .ref (mo))] → W p l e ({ frames := 12, cells := 0, slots := 0, locals := 256 }) s m ([.ref (mo)] : List Value).toArray below meth c H9 locs9 0 0 (hq_MQ below (hq_QX D cs B (fun v V' n' => v = none ∧ n = n' ∧ hq_P cs G (fun _ => true) V V' ∧ (∀ x, x ≠ mo → (x < q ∨ q + 19 ≤ x) → V' x = V x) ∧ (∃ m_fr1 : Int32, ∃ m_bh1 : Int32, ∃ m_hd1 : Int32, ∃ rh1 : hm_Rh, V' (mo) = some (.inr (13, hm_o q (m_tp) (m_sz) (m_fr1) (m_bh1) (m_hd1) (m_ft) (m_fa) (m_le) (m_fo) (m_as) (m_fd) (m_bc) (m_bg) (m_bs) (m_be) (m_b0) (m_b1) (m_cm) (m_hc))) ∧ ((sp_prs w 9000 0 ([], [], [], [])).1 = 0 ∧ hm_DR rh1 w (sp_prs w 9000 0 ([], [], [], [])).2.2) ∧ (hm_AR cs V' q rh1) ∧ (hm_H rh rh1))) (fun x V' n' => x = q + 19 ∧ n = n' ∧ hq_P cs G (fun _ => true) V V' ∧ (∀ x, x ≠ mo → (x < q ∨ q + 19 ≤ x) → V' x = V x) ∧ (∃ m_fr1 : Int32, ∃ m_bh1 : Int32, ∃ m_hd1 : Int32, ∃ m_ft1 : Int32, ∃ m_fa1 : Int32, ∃ rh1 : hm_Rh, V' (mo) = some (.inr (13, hm_o q (m_tp) (m_sz) (m_fr1) (m_bh1) (m_hd1) (m_ft1) (m_fa1) (m_le) (m_fo) (m_as) (m_fd) (m_bc) (m_bg) (m_bs) (m_be) (m_b0) (m_b1) (m_cm) (m_hc))) ∧ (hx_F w (sp_prs w 9000 0 ([], [], [], [])).1 (sp_prs w 9000 0 ([], [], [], [])).2.1 m_ft1 m_fa1) ∧ (hm_AR cs V' q rh1) ∧ (hm_H rh rh1)))) ([.ref (mo)] : List Value).toArray s 0 0 (hp_F B)) (F0 m 30 ls []) from lp30 _ _ _ _ ls  (0) ([]) ([]) ([]) ([]) (9000) (rh49) (z65) (z66) (z67) rfl hZ hP ho68 (fun x8 hne0 hne1 => (fr64 x8 hne0).trans ((o56 x8 hne0).trans ((o43 x8 (by omega)).trans ((o26 x8 (by omega)).trans (o9 x8 (by omega)))))) pk78 pk80 (hp69) (hm_DR.nil (by show (rh49 0 (1 : Int32).toNatClampNeg).toInt = 0; rw [hrh50, hm_u2a (by decide), hrh33, hm_u2a (by decide), hrh16, hm_u2e]; decide) (by show (rh49 1 (1 : Int32).toNatClampNeg).toInt = 0; rw [hrh50, hm_u2a (by decide), hrh33, hm_u2e]; decide) (by show (rh49 2 (1 : Int32).toNatClampNeg).toInt = 0; rw [hrh50, hm_u2e]; decide)) (hH52) (by omega) (rfl) (lv_sub hl [0] rfl)
  intro k9
  induction k9 using Nat.strongRecOn with
  | _ k9 ih30 =>
    intro V9 H9 locs9 ls  j cl vn vc lz kf rh9 fr9 bh9 hd9 hk30 hZ hP ho77 fr30 pk79 pk81 hA hDR hH9 hv82 hprs hl
    have hb_fr9 := hq_rng fr9
    have hb_bh9 := hq_rng bh9
    have hb_hd9 := hq_rng hd9
    obtain ⟨b83, b84, b85, -⟩ := id hA
    have ht9 := sp_tok (w := w) (j := j) hA.1
    have hm9 := sp_s_mono w 0 j
    rw [Nat.zero_add] at hm9
    have hm8 := (sp_tok (w := w) (j := 0) ⟨show (0 : Int) ≤ 0 by decide, show (0 : Int) ≤ w.2 by omega⟩).1
    have hh0 := sp_h_0 (sp_k w j)
    refine lv_aload_n hx hb dX13_readBook_30 rfl (lv_at hl 0 rfl) ?_
    refine hp_get (v := .int (hd9)) hx hb hts hown hZ ho77 fl_X13_83 rfl dX13_readBook_31 ?_
    refine lv_if_eq (tgt := 62) hx hb dX13_readBook_34 (by decide) (fun c86 => ?_) (fun c86 => ?_)
    · have c86 : (hd9).toInt = (0 : Int) := hq_eqi.mp c86
      exact hq_vret hx hb hr hlocks hZ ⟨rfl, rfl, hP, (fun x8 hne0 hne1 => fr30 x8 hne0 hne1), fr9, bh9, hd9, rh9, ho77, (by rw [← hprs, show kf = (kf - 1) + 1 by omega, sp_prs_end (by omega)]; exact ⟨rfl, hDR⟩), pk81, hH9⟩ dX13_readBook_62
    · have c86 : ¬ (hd9).toInt = (0 : Int) := fun h9 => c86 (hq_eqi.mpr h9)
      refine lv_aload_n hx hb dX13_readBook_37 rfl (lv_at hl 0 rfl) ?_
      refine hq_callx (hq_runV (As := []) (rest := []) hx hb hml hown hts (y_readItem l D cs B G V9 n hP.1 (q) (mo) (w) (rh9) (j) (cl) (vn) (vc) (lz) (m_tp) (m_sz) (fr9) (bh9) (hd9) (m_ft) (m_fa) (m_le) (m_fo) (m_as) (m_fd) (m_bc) (m_bg) (m_bs) (m_be) (m_b0) (m_b1) (m_cm) (m_hc)  ho77 pk79 pk81 hR hmo hmq (by omega) hA hDR) hZ ho77 cv_X13_169 rfl rfl ⟨Nat.le_of_ble_eq_true rfl, Nat.le_of_ble_eq_true rfl⟩ rfl hl.1 rfl (Nat.le_of_ble_eq_true rfl) dX13_readBook_38 ⟨(Nat.le_of_ble_eq_true rfl), (Nat.le_of_ble_eq_true rfl)⟩) hZ hnx hlocks (by rintro x9 V9x n9 ⟨rfl, rfl, hqx, frx, zx93, zx94, zx95, zx96, zx97, zx98, hox99, hpx100, hpx101, hpx102⟩; have b103 := hq_rng zx93; have b104 := hq_rng zx94; have b105 := hq_rng zx95; have b106 := hq_rng zx96; have b107 := hq_rng zx97; exact ⟨rfl, rfl, hP.trans hqx (fun _ h => Bool.noConfusion h), (fun x8 hne0 hne1 => (frx x8 hne0 hne1).trans (fr30 x8 hne0 hne1)), zx93, zx94, zx95, zx96, zx97, zx98, hox99, (by rw [← hprs, show kf = (kf - 1) + 1 by omega, sp_prs_bad (b := (cl, vn, vc, lz)) (by omega) hpx100.1]; exact hpx100), hpx101, (hH9.trans hpx102)⟩) (fun v9 V87 n88 _ _ hw89 hZ => ?_)
      obtain ⟨rfl, rfl, hq91, fr92, z108, z109, z110, u111, ho112, hp113, hp114, hp115⟩ := hw89
      refine W.eq (g2 := F0 m 41 ls []) rfl ?_
      have b116 := hq_rng z108
      have b117 := hq_rng z109
      have b118 := hq_rng z110
      have hP := hP.trans hq91 (fun _ h => Bool.noConfusion h)
      obtain ⟨b119, hA120, hd121⟩ := hp113
      have hge := sp_item_ge (w := w) (j := j) (cl, vn, vc, lz)
      have hH122 := hH9.trans hp115
      obtain ⟨b123, b124, b125, -⟩ := id hA120
      have b126 := sp_h_4 (sp_k w (sp_item w (cl, vn, vc, lz) j).2.1)
      refine lv_aload_n hx hb dX13_readBook_41 rfl (lv_at hl 0 rfl) ?_
      refine hp_get (v := .int (z110)) hx hb hts hown hZ ho112 fl_X13_83 rfl dX13_readBook_42 ?_
      refine lv_iconst (v := 4) hx hb dX13_readBook_45 (by decide) ?_
      refine lv_icmp_eq (tgt := 55) hx hb dX13_readBook_46 (by decide) (fun c127 => ?_) (fun c127 => ?_)
      · have c127 : (z110).toInt = (4 : Int) := hq_eqi.mp c127
        refine lv_aload_n hx hb dX13_readBook_55 rfl (lv_at hl 0 rfl) ?_
        have pk128 := pk79.keep (fr92 (q + 20) (hq_tne (hr_20 hR) hmo (by simp)) (by omega))
        refine hp_callv (hp_runV (As := []) (rest := []) hx hb hml hown hts (y_next l D cs B G V87 n hP.1 (q) (mo) (w) ((sp_item w (cl, vn, vc, lz) j).2.1) (m_tp) (m_sz) (z108) (z109) (z110) (m_ft) (m_fa) (m_le) (m_fo) (m_as) (m_fd) (m_bc) (m_bg) (m_bs) (m_be) (m_b0) (m_b1) (m_cm) (m_hc)  ho112 pk128 hR hmo hmq (by omega) hA120 (by omega)) hZ ho112 cv_X13_111 rfl rfl ⟨Nat.le_of_ble_eq_true rfl, Nat.le_of_ble_eq_true rfl⟩ rfl hl.1 rfl (Nat.le_of_ble_eq_true rfl) dX13_readBook_56 ⟨(Nat.le_of_ble_eq_true rfl), (Nat.le_of_ble_eq_true rfl)⟩) hZ (fun V129 n130 _ _ hw131 hZ => ?_)
        obtain ⟨rfl, hq133, fr134, z135, z136, z137, ho138, hp139, hp140⟩ := hw131
        have b141 := hq_rng z135
        have b142 := hq_rng z136
        have b143 := hq_rng z137
        have hP := hP.trans hq133 (fun _ h => Bool.noConfusion h)
        obtain ⟨b144, b145, b146, -⟩ := id hp139
        refine lv_goto (tgt := 30) hx hb dX13_readBook_59 (by decide) ?_
        have pk147 := pk128.keep (fr134 (q + 20) (hq_tne (hr_20 hR) hmo (by simp)))
        have pk148 := hp114.keep (fun x7 (hx7 : q ≤ x7 ∧ x7 < q + 19) => fr134 x7 (by omega))
        exact ih30 _ (by omega) _ _ _ ls  ((sp_item w (cl, vn, vc, lz) j).2.1 + 1) ((sp_item w (cl, vn, vc, lz) j).2.2.1) ((sp_item w (cl, vn, vc, lz) j).2.2.2.1) ((sp_item w (cl, vn, vc, lz) j).2.2.2.2.1) ((sp_item w (cl, vn, vc, lz) j).2.2.2.2.2) (kf - 1) (u111) (z135) (z136) (z137) rfl hZ hP ho138 (fun x8 hne0 hne1 => (fr134 x8 hne0).trans ((fr92 x8 hne0 hne1).trans (fr30 x8 hne0 hne1))) pk147 pk148 (hp139) (hd121) (hH122) (by omega) (by rw [← hprs, show kf = (kf - 1) + 1 by omega, sp_prs_ok (b := (cl, vn, vc, lz)) (by omega) (by omega) (by rw [(sp_take_y (w := w) (d := 20) (j := (sp_item w (cl, vn, vc, lz) j).2.1) (by omega)).1]), (sp_take_y (w := w) (d := 20) (j := (sp_item w (cl, vn, vc, lz) j).2.1) (by omega)).2]; rfl) (lv_sub hl [0] rfl)
      · have c127 : ¬ (z110).toInt = (4 : Int) := fun h9 => c127 (hq_eqi.mpr h9)
        refine lv_aload_n hx hb dX13_readBook_49 rfl (lv_at hl 0 rfl) ?_
        refine lv_iconst (v := 1) hx hb dX13_readBook_50 (by decide) ?_
        have hl149 : (1 : Int32).toInt = 1 := by decide
        refine hp_callq (hp_runV (As := [.int (1)]) (rest := []) hx hb hml hown hts (y_wrong l D cs B G V87 n hP.1 (q) (mo) (m_tp) (m_sz) (z108) (z109) (z110) (m_ft) (m_fa) (m_le) (m_fo) (m_as) (m_fd) (m_bc) (m_bg) (m_bs) (m_be) (m_b0) (m_b1) (m_cm) (m_hc) (1)  ho112  hR hmo hmq) hZ ho112 cv_X13_107 rfl rfl ⟨Nat.le_of_ble_eq_true rfl, Nat.le_of_ble_eq_true rfl⟩ rfl hl.1 rfl (Nat.le_of_ble_eq_true rfl) dX13_readBook_51 ⟨(Nat.le_of_ble_eq_true rfl), (Nat.le_of_ble_eq_true rfl)⟩) hZ (fun r153 V150 n151 _ _ hw152 hZ => ?_)
        obtain ⟨rfl, hq154, fr155, ho156, hp157⟩ := hw152
        have hP := hP.trans hq154 (fun _ h => Bool.noConfusion h)
        subst hp157
        refine W.eq (g2 := F0 m 54 ls [.ref (q + 19)]) rfl ?_
        have hl158 : (1 : Int32).toInt = 1 := by decide
        obtain ⟨hs91, hs92⟩ := sp_take_n (w := w) (d := 20) (j := (sp_item w (cl, vn, vc, lz) j).2.1) (by omega)
        have hs93 : sp_s w (sp_take w 20 (sp_item w (cl, vn, vc, lz) j).2.1).2 = sp_s w (sp_item w (cl, vn, vc, lz) j).2.1 := by rw [hs92]
        have pk159 := hp114.keep (fun x7 (hx7 : q ≤ x7 ∧ x7 < q + 19) => fr155 x7 (by omega))
        exact hq_athrow hx hb hnx hlocks hZ ⟨rfl, rfl, hP, (fun x8 hne0 hne1 => (fr155 x8 hne0).trans ((fr92 x8 hne0 hne1).trans (fr30 x8 hne0 hne1))), z108, z109, z110, 1, z108, u111, ho156, (by rw [← hprs, show kf = (kf - 1) + 1 by omega, sp_prs_semi (b := (cl, vn, vc, lz)) (by omega) (by omega) (by omega)]; (try dsimp only); exact ⟨by omega, by omega, by omega⟩), pk159, hH122⟩ dX13_readBook_54

set_option maxHeartbeats 4000000 in
set_option maxRecDepth 100000 in
theorem y_takeClass (l : Launch) (D : va_G) (cs : Nat → ClassId) (B : Nat) (G : hq_G) (V : hp_V) (n : Nat) (hI : hq_I cs G V) (q : Nat) (mo : Nat) (w : sp_W) (rh : hm_Rh) (j : Nat) (cl : List Nat) (m_tp : Int32) (m_sz : Int32) (m_fr : Int32) (m_bh : Int32) (m_hd : Int32) (m_ft : Int32) (m_fa : Int32) (m_le : Int32) (m_fo : Int32) (m_as : Int32) (m_fd : Int32) (m_bc : Int32) (m_bg : Int32) (m_bs : Int32) (m_be : Int32) (m_b0 : Int32) (m_b1 : Int32) (m_cm : Int32) (m_hc : Int32) (hc0 : V (mo) = some (.inr (13, hm_o q (m_tp) (m_sz) (m_fr) (m_bh) (m_hd) (m_ft) (m_fa) (m_le) (m_fo) (m_as) (m_fd) (m_bc) (m_bg) (m_bs) (m_be) (m_b0) (m_b1) (m_cm) (m_hc)))) (hp0 : hm_TP cs V q w) (hp1 : hm_AR cs V q rh) (hR : hq_RT G q) (hmo : G mo = some (24, 0, 0, 0)) (hmq : mo < q) (hsz : m_sz.toInt = w.2) (hA : hm_A w j m_fr m_bh m_hd) (hCN : hm_NL rh 7 3 6 6 w cl) (hcnt : (rh 0 1).toInt = (cl.length : Int)) : hq_M l yX13_takeClass cX13_takeClass 2 (some .int) ({ frames := 8, cells := 0, slots := 0, locals := 170 }) D cs B V n [.ref (mo)] (hq_QX D cs B (fun v V' n' => ∃ r : Int32, v = some (.int r) ∧ n = n' ∧ hq_P cs G (fun _ => true) V V' ∧ (∀ x, x ≠ mo → V' x = V x) ∧ (∃ m_fr1 : Int32, ∃ m_bh1 : Int32, ∃ m_hd1 : Int32, V' (mo) = some (.inr (13, hm_o q (m_tp) (m_sz) (m_fr1) (m_bh1) (m_hd1) (m_ft) (m_fa) (m_le) (m_fo) (m_as) (m_fd) (m_bc) (m_bg) (m_bs) (m_be) (m_b0) (m_b1) (m_cm) (m_hc))) ∧ ((sp_old w cl j).1 = 0 ∧ hm_A w (sp_old w cl j).2.1 m_fr1 m_bh1 m_hd1 ∧ r.toInt = (sp_old w cl j).2.2) ∧ (0 ≤ r.toInt ∧ r.toInt < 6))) (fun x V' n' => x = q + 19 ∧ n = n' ∧ hq_P cs G (fun _ => true) V V' ∧ (∀ x, x ≠ mo → V' x = V x) ∧ (∃ m_fr1 : Int32, ∃ m_bh1 : Int32, ∃ m_hd1 : Int32, ∃ m_ft1 : Int32, ∃ m_fa1 : Int32, V' (mo) = some (.inr (13, hm_o q (m_tp) (m_sz) (m_fr1) (m_bh1) (m_hd1) (m_ft1) (m_fa1) (m_le) (m_fo) (m_as) (m_fd) (m_bc) (m_bg) (m_bs) (m_be) (m_b0) (m_b1) (m_cm) (m_hc))) ∧ (hx_F w (sp_old w cl j).1 (sp_old w cl j).2.1 m_ft1 m_fa1)))) 0 0 := by
  refine hq_walk (R0 := RX13) (by decide) rfl ?_ (Nat.le_of_ble_eq_true rfl)
  intro p e s m below meth c ls hx hb hr hts hown hlocks hin hml hnx hZ hl
  have hP : hq_P cs G (fun _ => true) V V := hq_P.rf hI
  have hl : lv_has ls 2 [(0, .ref (mo))] := hl
  have hb_m_tp := hq_rng m_tp
  have hb_m_sz := hq_rng m_sz
  have hb_m_fr := hq_rng m_fr
  have hb_m_bh := hq_rng m_bh
  have hb_m_hd := hq_rng m_hd
  have hb_m_ft := hq_rng m_ft
  have hb_m_fa := hq_rng m_fa
  have hb_m_le := hq_rng m_le
  have hb_m_fo := hq_rng m_fo
  have hb_m_as := hq_rng m_as
  have hb_m_fd := hq_rng m_fd
  have hb_m_bc := hq_rng m_bc
  have hb_m_bg := hq_rng m_bg
  have hb_m_bs := hq_rng m_bs
  have hb_m_be := hq_rng m_be
  have hb_m_b0 := hq_rng m_b0
  have hb_m_b1 := hq_rng m_b1
  have hb_m_cm := hq_rng m_cm
  have hb_m_hc := hq_rng m_hc
  obtain ⟨b1, b2, b3, -⟩ := id hA
  have hlen := hCN.1
  refine lv_aload_n hx hb dX13_takeClass_0 rfl (lv_at hl 0 rfl) ?_
  refine hq_callx (hq_runV (As := []) (rest := []) hx hb hml hown hts (y_needName l D cs B G V n hP.1 (q) (mo) (w) (j) (m_tp) (m_sz) (m_fr) (m_bh) (m_hd) (m_ft) (m_fa) (m_le) (m_fo) (m_as) (m_fd) (m_bc) (m_bg) (m_bs) (m_be) (m_b0) (m_b1) (m_cm) (m_hc)  hc0 hp0 hR hmo hmq (by omega) hA) hZ hc0 cv_X13_160 rfl rfl ⟨Nat.le_of_ble_eq_true rfl, Nat.le_of_ble_eq_true rfl⟩ rfl hl.1 rfl (Nat.le_of_ble_eq_true rfl) dX13_takeClass_1 ⟨(Nat.le_of_ble_eq_true rfl), (Nat.le_of_ble_eq_true rfl)⟩) hZ hnx hlocks (by rintro x9 V9x n9 ⟨rfl, rfl, hqx, frx, zx10, zx11, hox12, hpx13⟩; have b14 := hq_rng zx10; have b15 := hq_rng zx11; obtain ⟨hn91, hn92, hn93⟩ := hpx13; exact ⟨rfl, rfl, hP.trans hqx (fun _ h => Bool.noConfusion h), (fun x8 hne0 => frx x8 hne0), m_fr, m_bh, m_hd, zx10, zx11, hox12, (by unfold sp_old; (repeat (first | (rw [if_pos]; rotate_left; omega) | (rw [if_neg]; rotate_left; omega))); (try dsimp only); exact ⟨by omega, by omega, by omega⟩)⟩) (fun v9 V4 n5 _ _ hw6 hZ => ?_)
  obtain ⟨rfl, rfl, hq8, fr9, ho16, hp17⟩ := hw6
  refine W.eq (g2 := F0 m 4 ls []) rfl ?_
  have hP := hP.trans hq8 (fun _ h => Bool.noConfusion h)
  have b18 := hp17
  refine lv_aload_n hx hb dX13_takeClass_4 rfl (lv_at hl 0 rfl) ?_
  have pk19 := hp0.keep (fr9 (q + 20) (hq_tne (hr_20 hR) hmo (by simp)))
  have pk20 := hp1.keep (fun x7 (hx7 : q ≤ x7 ∧ x7 < q + 19) => fr9 x7 (by omega))
  refine hp_calli (hp_runV (As := []) (rest := []) hx hb hml hown hts (y_classAtHand l D cs B G V4 n hP.1 (q) (mo) (w) (rh) (j) (cl) (m_tp) (m_sz) (m_fr) (m_bh) (m_hd) (m_ft) (m_fa) (m_le) (m_fo) (m_as) (m_fd) (m_bc) (m_bg) (m_bs) (m_be) (m_b0) (m_b1) (m_cm) (m_hc)  ho16 pk19 pk20 hR hmo hmq (by omega) hA (by omega) hCN hcnt) hZ ho16 cv_X13_163 rfl rfl ⟨Nat.le_of_ble_eq_true rfl, Nat.le_of_ble_eq_true rfl⟩ rfl hl.1 rfl (Nat.le_of_ble_eq_true rfl) dX13_takeClass_5 ⟨(Nat.le_of_ble_eq_true rfl), (Nat.le_of_ble_eq_true rfl)⟩) hZ (fun r24 V21 n22 _ _ hw23 hZ => ?_)
  obtain ⟨rfl, rfl, hp27⟩ := hw23
  have b28 := hq_rng r24
  have hfr := sp_fi_rg w j cl 0 (by decide)
  refine lv_istore_n (lv' := [(1, .int (r24)), (0, .ref (mo))]) hx hb dX13_takeClass_8 rfl hl (by decide) rfl (fun ls hl => ?_)
  refine lv_iload_n hx hb dX13_takeClass_9 rfl (lv_at hl 0 rfl) ?_
  refine lv_iconst (v := -1) hx hb dX13_takeClass_10 (by decide) ?_
  refine lv_icmp_ne (tgt := 20) hx hb dX13_takeClass_11 (by decide) (fun c29 => ?_) (fun c29 => ?_)
  · have c29 : ¬ (r24).toInt = (-1 : Int) := fun h9 => c29 (hq_eqi.mpr h9)
    refine lv_aload_n hx hb dX13_takeClass_20 rfl (lv_at hl 1 rfl) ?_
    refine hp_callv (hp_runV (As := []) (rest := []) hx hb hml hown hts (y_next l D cs B G V4 n hP.1 (q) (mo) (w) (j) (m_tp) (m_sz) (m_fr) (m_bh) (m_hd) (m_ft) (m_fa) (m_le) (m_fo) (m_as) (m_fd) (m_bc) (m_bg) (m_bs) (m_be) (m_b0) (m_b1) (m_cm) (m_hc)  ho16 pk19 hR hmo hmq (by omega) hA (by omega)) hZ ho16 cv_X13_111 rfl rfl ⟨Nat.le_of_ble_eq_true rfl, Nat.le_of_ble_eq_true rfl⟩ rfl hl.1 rfl (Nat.le_of_ble_eq_true rfl) dX13_takeClass_21 ⟨(Nat.le_of_ble_eq_true rfl), (Nat.le_of_ble_eq_true rfl)⟩) hZ (fun V30 n31 _ _ hw32 hZ => ?_)
    obtain ⟨rfl, hq34, fr35, z36, z37, z38, ho39, hp40, hp41⟩ := hw32
    have b42 := hq_rng z36
    have b43 := hq_rng z37
    have b44 := hq_rng z38
    have hP := hP.trans hq34 (fun _ h => Bool.noConfusion h)
    obtain ⟨b45, b46, b47, -⟩ := id hp40
    refine lv_iload_n hx hb dX13_takeClass_24 rfl (lv_at hl 0 rfl) ?_
    exact hq_iret hx hb hr hlocks hZ ⟨_, rfl, rfl, hP, (fun x8 hne0 => (fr35 x8 hne0).trans (fr9 x8 hne0)), z36, z37, z38, ho39, (by unfold sp_old; (repeat (first | (rw [if_pos]; rotate_left; omega) | (rw [if_neg]; rotate_left; omega))); (try dsimp only); exact ⟨by first | rfl | omega, hp40, by omega⟩), by omega⟩ dX13_takeClass_25
  · have c29 : (r24).toInt = (-1 : Int) := hq_eqi.mp c29
    refine lv_aload_n hx hb dX13_takeClass_14 rfl (lv_at hl 1 rfl) ?_
    refine lv_iconst (v := 2) hx hb dX13_takeClass_15 (by decide) ?_
    have hl48 : (2 : Int32).toInt = 2 := by decide
    refine hp_callq (hp_runV (As := [.int (2)]) (rest := []) hx hb hml hown hts (y_wrong l D cs B G V4 n hP.1 (q) (mo) (m_tp) (m_sz) (m_fr) (m_bh) (m_hd) (m_ft) (m_fa) (m_le) (m_fo) (m_as) (m_fd) (m_bc) (m_bg) (m_bs) (m_be) (m_b0) (m_b1) (m_cm) (m_hc) (2)  ho16  hR hmo hmq) hZ ho16 cv_X13_107 rfl rfl ⟨Nat.le_of_ble_eq_true rfl, Nat.le_of_ble_eq_true rfl⟩ rfl hl.1 rfl (Nat.le_of_ble_eq_true rfl) dX13_takeClass_16 ⟨(Nat.le_of_ble_eq_true rfl), (Nat.le_of_ble_eq_true rfl)⟩) hZ (fun r52 V49 n50 _ _ hw51 hZ => ?_)
    obtain ⟨rfl, hq53, fr54, ho55, hp56⟩ := hw51
    have hP := hP.trans hq53 (fun _ h => Bool.noConfusion h)
    subst hp56
    refine W.eq (g2 := F0 m 19 ls [.ref (q + 19)]) rfl ?_
    have hl57 : (2 : Int32).toInt = 2 := by decide
    exact hq_athrow hx hb hnx hlocks hZ ⟨rfl, rfl, hP, (fun x8 hne0 => (fr54 x8 hne0).trans (fr9 x8 hne0)), m_fr, m_bh, m_hd, 2, m_fr, ho55, (by unfold sp_old; (repeat (first | (rw [if_pos]; rotate_left; omega) | (rw [if_neg]; rotate_left; omega))); (try dsimp only); exact ⟨by omega, by omega, by omega⟩)⟩ dX13_takeClass_19

set_option maxHeartbeats 4000000 in
set_option maxRecDepth 100000 in
theorem y_takeVerb (l : Launch) (D : va_G) (cs : Nat → ClassId) (B : Nat) (G : hq_G) (V : hp_V) (n : Nat) (hI : hq_I cs G V) (q : Nat) (mo : Nat) (w : sp_W) (rh : hm_Rh) (j : Nat) (vn : List Nat) (m_tp : Int32) (m_sz : Int32) (m_fr : Int32) (m_bh : Int32) (m_hd : Int32) (m_ft : Int32) (m_fa : Int32) (m_le : Int32) (m_fo : Int32) (m_as : Int32) (m_fd : Int32) (m_bc : Int32) (m_bg : Int32) (m_bs : Int32) (m_be : Int32) (m_b0 : Int32) (m_b1 : Int32) (m_cm : Int32) (m_hc : Int32) (hc0 : V (mo) = some (.inr (13, hm_o q (m_tp) (m_sz) (m_fr) (m_bh) (m_hd) (m_ft) (m_fa) (m_le) (m_fo) (m_as) (m_fd) (m_bc) (m_bg) (m_bs) (m_be) (m_b0) (m_b1) (m_cm) (m_hc)))) (hp0 : hm_TP cs V q w) (hp1 : hm_AR cs V q rh) (hR : hq_RT G q) (hmo : G mo = some (24, 0, 0, 0)) (hmq : mo < q) (hsz : m_sz.toInt = w.2) (hA : hm_A w j m_fr m_bh m_hd) (hVN : hm_NL rh 8 4 30 30 w vn) (hcnt : (rh 1 1).toInt = (vn.length : Int)) : hq_M l yX13_takeVerb cX13_takeVerb 2 (some .int) ({ frames := 8, cells := 0, slots := 0, locals := 170 }) D cs B V n [.ref (mo)] (hq_QX D cs B (fun v V' n' => ∃ r : Int32, v = some (.int r) ∧ n = n' ∧ hq_P cs G (fun _ => true) V V' ∧ (∀ x, x ≠ mo → V' x = V x) ∧ (∃ m_fr1 : Int32, ∃ m_bh1 : Int32, ∃ m_hd1 : Int32, V' (mo) = some (.inr (13, hm_o q (m_tp) (m_sz) (m_fr1) (m_bh1) (m_hd1) (m_ft) (m_fa) (m_le) (m_fo) (m_as) (m_fd) (m_bc) (m_bg) (m_bs) (m_be) (m_b0) (m_b1) (m_cm) (m_hc))) ∧ ((sp_old w vn j).1 = 0 ∧ hm_A w (sp_old w vn j).2.1 m_fr1 m_bh1 m_hd1 ∧ r.toInt = (sp_old w vn j).2.2) ∧ (0 ≤ r.toInt ∧ r.toInt < 30))) (fun x V' n' => x = q + 19 ∧ n = n' ∧ hq_P cs G (fun _ => true) V V' ∧ (∀ x, x ≠ mo → V' x = V x) ∧ (∃ m_fr1 : Int32, ∃ m_bh1 : Int32, ∃ m_hd1 : Int32, ∃ m_ft1 : Int32, ∃ m_fa1 : Int32, V' (mo) = some (.inr (13, hm_o q (m_tp) (m_sz) (m_fr1) (m_bh1) (m_hd1) (m_ft1) (m_fa1) (m_le) (m_fo) (m_as) (m_fd) (m_bc) (m_bg) (m_bs) (m_be) (m_b0) (m_b1) (m_cm) (m_hc))) ∧ (hx_F w (sp_old w vn j).1 (sp_old w vn j).2.1 m_ft1 m_fa1)))) 0 0 := by
  refine hq_walk (R0 := RX13) (by decide) rfl ?_ (Nat.le_of_ble_eq_true rfl)
  intro p e s m below meth c ls hx hb hr hts hown hlocks hin hml hnx hZ hl
  have hP : hq_P cs G (fun _ => true) V V := hq_P.rf hI
  have hl : lv_has ls 2 [(0, .ref (mo))] := hl
  have hb_m_tp := hq_rng m_tp
  have hb_m_sz := hq_rng m_sz
  have hb_m_fr := hq_rng m_fr
  have hb_m_bh := hq_rng m_bh
  have hb_m_hd := hq_rng m_hd
  have hb_m_ft := hq_rng m_ft
  have hb_m_fa := hq_rng m_fa
  have hb_m_le := hq_rng m_le
  have hb_m_fo := hq_rng m_fo
  have hb_m_as := hq_rng m_as
  have hb_m_fd := hq_rng m_fd
  have hb_m_bc := hq_rng m_bc
  have hb_m_bg := hq_rng m_bg
  have hb_m_bs := hq_rng m_bs
  have hb_m_be := hq_rng m_be
  have hb_m_b0 := hq_rng m_b0
  have hb_m_b1 := hq_rng m_b1
  have hb_m_cm := hq_rng m_cm
  have hb_m_hc := hq_rng m_hc
  obtain ⟨b1, b2, b3, -⟩ := id hA
  have hlen := hVN.1
  refine lv_aload_n hx hb dX13_takeVerb_0 rfl (lv_at hl 0 rfl) ?_
  refine hq_callx (hq_runV (As := []) (rest := []) hx hb hml hown hts (y_needName l D cs B G V n hP.1 (q) (mo) (w) (j) (m_tp) (m_sz) (m_fr) (m_bh) (m_hd) (m_ft) (m_fa) (m_le) (m_fo) (m_as) (m_fd) (m_bc) (m_bg) (m_bs) (m_be) (m_b0) (m_b1) (m_cm) (m_hc)  hc0 hp0 hR hmo hmq (by omega) hA) hZ hc0 cv_X13_160 rfl rfl ⟨Nat.le_of_ble_eq_true rfl, Nat.le_of_ble_eq_true rfl⟩ rfl hl.1 rfl (Nat.le_of_ble_eq_true rfl) dX13_takeVerb_1 ⟨(Nat.le_of_ble_eq_true rfl), (Nat.le_of_ble_eq_true rfl)⟩) hZ hnx hlocks (by rintro x9 V9x n9 ⟨rfl, rfl, hqx, frx, zx10, zx11, hox12, hpx13⟩; have b14 := hq_rng zx10; have b15 := hq_rng zx11; obtain ⟨hn91, hn92, hn93⟩ := hpx13; exact ⟨rfl, rfl, hP.trans hqx (fun _ h => Bool.noConfusion h), (fun x8 hne0 => frx x8 hne0), m_fr, m_bh, m_hd, zx10, zx11, hox12, (by unfold sp_old; (repeat (first | (rw [if_pos]; rotate_left; omega) | (rw [if_neg]; rotate_left; omega))); (try dsimp only); exact ⟨by omega, by omega, by omega⟩)⟩) (fun v9 V4 n5 _ _ hw6 hZ => ?_)
  obtain ⟨rfl, rfl, hq8, fr9, ho16, hp17⟩ := hw6
  refine W.eq (g2 := F0 m 4 ls []) rfl ?_
  have hP := hP.trans hq8 (fun _ h => Bool.noConfusion h)
  have b18 := hp17
  refine lv_aload_n hx hb dX13_takeVerb_4 rfl (lv_at hl 0 rfl) ?_
  have pk19 := hp0.keep (fr9 (q + 20) (hq_tne (hr_20 hR) hmo (by simp)))
  have pk20 := hp1.keep (fun x7 (hx7 : q ≤ x7 ∧ x7 < q + 19) => fr9 x7 (by omega))
  refine hp_calli (hp_runV (As := []) (rest := []) hx hb hml hown hts (y_verbAtHand l D cs B G V4 n hP.1 (q) (mo) (w) (rh) (j) (vn) (m_tp) (m_sz) (m_fr) (m_bh) (m_hd) (m_ft) (m_fa) (m_le) (m_fo) (m_as) (m_fd) (m_bc) (m_bg) (m_bs) (m_be) (m_b0) (m_b1) (m_cm) (m_hc)  ho16 pk19 pk20 hR hmo hmq (by omega) hA (by omega) hVN hcnt) hZ ho16 cv_X13_166 rfl rfl ⟨Nat.le_of_ble_eq_true rfl, Nat.le_of_ble_eq_true rfl⟩ rfl hl.1 rfl (Nat.le_of_ble_eq_true rfl) dX13_takeVerb_5 ⟨(Nat.le_of_ble_eq_true rfl), (Nat.le_of_ble_eq_true rfl)⟩) hZ (fun r24 V21 n22 _ _ hw23 hZ => ?_)
  obtain ⟨rfl, rfl, hp27⟩ := hw23
  have b28 := hq_rng r24
  have hfr := sp_fi_rg w j vn 0 (by decide)
  refine lv_istore_n (lv' := [(1, .int (r24)), (0, .ref (mo))]) hx hb dX13_takeVerb_8 rfl hl (by decide) rfl (fun ls hl => ?_)
  refine lv_iload_n hx hb dX13_takeVerb_9 rfl (lv_at hl 0 rfl) ?_
  refine lv_iconst (v := -1) hx hb dX13_takeVerb_10 (by decide) ?_
  refine lv_icmp_ne (tgt := 20) hx hb dX13_takeVerb_11 (by decide) (fun c29 => ?_) (fun c29 => ?_)
  · have c29 : ¬ (r24).toInt = (-1 : Int) := fun h9 => c29 (hq_eqi.mpr h9)
    refine lv_aload_n hx hb dX13_takeVerb_20 rfl (lv_at hl 1 rfl) ?_
    refine hp_callv (hp_runV (As := []) (rest := []) hx hb hml hown hts (y_next l D cs B G V4 n hP.1 (q) (mo) (w) (j) (m_tp) (m_sz) (m_fr) (m_bh) (m_hd) (m_ft) (m_fa) (m_le) (m_fo) (m_as) (m_fd) (m_bc) (m_bg) (m_bs) (m_be) (m_b0) (m_b1) (m_cm) (m_hc)  ho16 pk19 hR hmo hmq (by omega) hA (by omega)) hZ ho16 cv_X13_111 rfl rfl ⟨Nat.le_of_ble_eq_true rfl, Nat.le_of_ble_eq_true rfl⟩ rfl hl.1 rfl (Nat.le_of_ble_eq_true rfl) dX13_takeVerb_21 ⟨(Nat.le_of_ble_eq_true rfl), (Nat.le_of_ble_eq_true rfl)⟩) hZ (fun V30 n31 _ _ hw32 hZ => ?_)
    obtain ⟨rfl, hq34, fr35, z36, z37, z38, ho39, hp40, hp41⟩ := hw32
    have b42 := hq_rng z36
    have b43 := hq_rng z37
    have b44 := hq_rng z38
    have hP := hP.trans hq34 (fun _ h => Bool.noConfusion h)
    obtain ⟨b45, b46, b47, -⟩ := id hp40
    refine lv_iload_n hx hb dX13_takeVerb_24 rfl (lv_at hl 0 rfl) ?_
    exact hq_iret hx hb hr hlocks hZ ⟨_, rfl, rfl, hP, (fun x8 hne0 => (fr35 x8 hne0).trans (fr9 x8 hne0)), z36, z37, z38, ho39, (by unfold sp_old; (repeat (first | (rw [if_pos]; rotate_left; omega) | (rw [if_neg]; rotate_left; omega))); (try dsimp only); exact ⟨by first | rfl | omega, hp40, by omega⟩), by omega⟩ dX13_takeVerb_25
  · have c29 : (r24).toInt = (-1 : Int) := hq_eqi.mp c29
    refine lv_aload_n hx hb dX13_takeVerb_14 rfl (lv_at hl 1 rfl) ?_
    refine lv_iconst (v := 2) hx hb dX13_takeVerb_15 (by decide) ?_
    have hl48 : (2 : Int32).toInt = 2 := by decide
    refine hp_callq (hp_runV (As := [.int (2)]) (rest := []) hx hb hml hown hts (y_wrong l D cs B G V4 n hP.1 (q) (mo) (m_tp) (m_sz) (m_fr) (m_bh) (m_hd) (m_ft) (m_fa) (m_le) (m_fo) (m_as) (m_fd) (m_bc) (m_bg) (m_bs) (m_be) (m_b0) (m_b1) (m_cm) (m_hc) (2)  ho16  hR hmo hmq) hZ ho16 cv_X13_107 rfl rfl ⟨Nat.le_of_ble_eq_true rfl, Nat.le_of_ble_eq_true rfl⟩ rfl hl.1 rfl (Nat.le_of_ble_eq_true rfl) dX13_takeVerb_16 ⟨(Nat.le_of_ble_eq_true rfl), (Nat.le_of_ble_eq_true rfl)⟩) hZ (fun r52 V49 n50 _ _ hw51 hZ => ?_)
    obtain ⟨rfl, hq53, fr54, ho55, hp56⟩ := hw51
    have hP := hP.trans hq53 (fun _ h => Bool.noConfusion h)
    subst hp56
    refine W.eq (g2 := F0 m 19 ls [.ref (q + 19)]) rfl ?_
    have hl57 : (2 : Int32).toInt = 2 := by decide
    exact hq_athrow hx hb hnx hlocks hZ ⟨rfl, rfl, hP, (fun x8 hne0 => (fr54 x8 hne0).trans (fr9 x8 hne0)), m_fr, m_bh, m_hd, 2, m_fr, ho55, (by unfold sp_old; (repeat (first | (rw [if_pos]; rotate_left; omega) | (rw [if_neg]; rotate_left; omega))); (try dsimp only); exact ⟨by omega, by omega, by omega⟩)⟩ dX13_takeVerb_19

set_option maxHeartbeats 4000000 in
set_option maxRecDepth 100000 in
theorem y_readWhere (l : Launch) (D : va_G) (cs : Nat → ClassId) (B : Nat) (G : hq_G) (V : hp_V) (n : Nat) (hI : hq_I cs G V) (q : Nat) (mo : Nat) (w : sp_W) (rh : hm_Rh) (j : Nat) (cl : List Nat) (m_tp : Int32) (m_sz : Int32) (m_fr : Int32) (m_bh : Int32) (m_hd : Int32) (m_ft : Int32) (m_fa : Int32) (m_le : Int32) (m_fo : Int32) (m_as : Int32) (m_fd : Int32) (m_bc : Int32) (m_bg : Int32) (m_bs : Int32) (m_be : Int32) (m_b0 : Int32) (m_b1 : Int32) (m_cm : Int32) (m_hc : Int32) (k : Int32) (hc0 : V (mo) = some (.inr (13, hm_o q (m_tp) (m_sz) (m_fr) (m_bh) (m_hd) (m_ft) (m_fa) (m_le) (m_fo) (m_as) (m_fd) (m_bc) (m_bg) (m_bs) (m_be) (m_b0) (m_b1) (m_cm) (m_hc)))) (hp0 : hm_TP cs V q w) (hp1 : hm_AR cs V q rh) (hR : hq_RT G q) (hmo : G mo = some (24, 0, 0, 0)) (hmq : mo < q) (hsz : m_sz.toInt = w.2) (hA : hm_A w j m_fr m_bh m_hd) (hCN : hm_NL rh 7 3 6 6 w cl) (hcnt : (rh 0 1).toInt = (cl.length : Int)) (hk : 60 ≤ k.toInt ∧ k.toInt < 120) (hw1 : (rh 11 (k).toNatClampNeg).toInt = -1) : hq_M l yX13_readWhere cX13_readWhere 2 none ({ frames := 9, cells := 0, slots := 0, locals := 191 }) D cs B V n [.ref (mo), .int (k)] (hq_QX D cs B (fun v V' n' => v = none ∧ n = n' ∧ hq_P cs G (fun _ => true) V V' ∧ (∀ x, x ≠ mo → (x < q ∨ q + 19 ≤ x) → V' x = V x) ∧ (∃ m_fr1 : Int32, ∃ m_bh1 : Int32, ∃ m_hd1 : Int32, ∃ rh1 : hm_Rh, V' (mo) = some (.inr (13, hm_o q (m_tp) (m_sz) (m_fr1) (m_bh1) (m_hd1) (m_ft) (m_fa) (m_le) (m_fo) (m_as) (m_fd) (m_bc) (m_bg) (m_bs) (m_be) (m_b0) (m_b1) (m_cm) (m_hc))) ∧ ((sp_where w cl j).1 = 0 ∧ hm_A w (sp_where w cl j).2.1 m_fr1 m_bh1 m_hd1 ∧ (rh1 11 (k).toNatClampNeg).toInt = (sp_where w cl j).2.2) ∧ (hm_AR cs V' q rh1) ∧ (hm_W [11] (k).toNatClampNeg rh rh1))) (fun x V' n' => x = q + 19 ∧ n = n' ∧ hq_P cs G (fun _ => true) V V' ∧ (∀ x, x ≠ mo → (x < q ∨ q + 19 ≤ x) → V' x = V x) ∧ (∃ m_fr1 : Int32, ∃ m_bh1 : Int32, ∃ m_hd1 : Int32, ∃ m_ft1 : Int32, ∃ m_fa1 : Int32, ∃ rh1 : hm_Rh, V' (mo) = some (.inr (13, hm_o q (m_tp) (m_sz) (m_fr1) (m_bh1) (m_hd1) (m_ft1) (m_fa1) (m_le) (m_fo) (m_as) (m_fd) (m_bc) (m_bg) (m_bs) (m_be) (m_b0) (m_b1) (m_cm) (m_hc))) ∧ (hx_F w (sp_where w cl j).1 (sp_where w cl j).2.1 m_ft1 m_fa1) ∧ (hm_AR cs V' q rh1) ∧ (hm_H rh rh1)))) 0 0 := by
  refine hq_walk (R0 := RX13) (by decide) rfl ?_ (Nat.le_of_ble_eq_true rfl)
  intro p e s m below meth c ls hx hb hr hts hown hlocks hin hml hnx hZ hl
  have hP : hq_P cs G (fun _ => true) V V := hq_P.rf hI
  have hl : lv_has ls 2 [(0, .ref (mo)), (1, .int (k))] := hl
  have hb_m_tp := hq_rng m_tp
  have hb_m_sz := hq_rng m_sz
  have hb_m_fr := hq_rng m_fr
  have hb_m_bh := hq_rng m_bh
  have hb_m_hd := hq_rng m_hd
  have hb_m_ft := hq_rng m_ft
  have hb_m_fa := hq_rng m_fa
  have hb_m_le := hq_rng m_le
  have hb_m_fo := hq_rng m_fo
  have hb_m_as := hq_rng m_as
  have hb_m_fd := hq_rng m_fd
  have hb_m_bc := hq_rng m_bc
  have hb_m_bg := hq_rng m_bg
  have hb_m_bs := hq_rng m_bs
  have hb_m_be := hq_rng m_be
  have hb_m_b0 := hq_rng m_b0
  have hb_m_b1 := hq_rng m_b1
  have hb_m_cm := hq_rng m_cm
  have hb_m_hc := hq_rng m_hc
  have hb_k := hq_rng k
  obtain ⟨b1, b2, b3, -⟩ := id hA
  have hH0 : hm_H rh rh := hm_H.rf
  refine lv_aload_n hx hb dX13_readWhere_0 rfl (lv_at hl 0 rfl) ?_
  refine va_ldcS (tx := (hp_so.getD 15 ("", 0, "")).2.2) (q := cs (100 + 15)) hx hb hown (hZ.2.2.2.2.2.2.2.2.2.2 15 (by decide)) dX13_readWhere_1 ?_
  refine hp_calli (hp_runV (As := [.ref (cs (100 + 15))]) (rest := []) hx hb hml hown hts (y_is l D cs B G V n hP.1 (q) (mo) (w) (j) (15) (14) (m_tp) (m_sz) (m_fr) (m_bh) (m_hd) (m_ft) (m_fa) (m_le) (m_fo) (m_as) (m_fd) (m_bc) (m_bg) (m_bs) (m_be) (m_b0) (m_b1) (m_cm) (m_hc)  hc0 hp0 hR hmo (by omega) hA (by decide) (by decide) rfl) hZ hc0 cv_X13_103 rfl rfl ⟨Nat.le_of_ble_eq_true rfl, Nat.le_of_ble_eq_true rfl⟩ rfl hl.1 rfl (Nat.le_of_ble_eq_true rfl) dX13_readWhere_3 ⟨(Nat.le_of_ble_eq_true rfl), (Nat.le_of_ble_eq_true rfl)⟩) hZ (fun r7 V4 n5 _ _ hw6 hZ => ?_)
  obtain ⟨rfl, rfl, hp10⟩ := hw6
  have b11 := hq_rng r7
  refine lv_if_eq (tgt := 14) hx hb dX13_readWhere_6 (by decide) (fun c12 => ?_) (fun c12 => ?_)
  · have c12 : (r7).toInt = (0 : Int) := hq_eqi.mp c12
    have b13 : ¬ sp_k w (j) = 14 := by have h9 := hp10; omega
    refine lv_aload_n hx hb dX13_readWhere_14 rfl (lv_at hl 0 rfl) ?_
    refine va_ldcS (tx := (hp_so.getD 16 ("", 0, "")).2.2) (q := cs (100 + 16)) hx hb hown (hZ.2.2.2.2.2.2.2.2.2.2 16 (by decide)) dX13_readWhere_15 ?_
    refine hq_callx (hq_runV (As := [.ref (cs (100 + 16))]) (rest := []) hx hb hml hown hts (y_need l D cs B G V n hP.1 (q) (mo) (w) (j) (16) (15) (15) (m_tp) (m_sz) (m_fr) (m_bh) (m_hd) (m_ft) (m_fa) (m_le) (m_fo) (m_as) (m_fd) (m_bc) (m_bg) (m_bs) (m_be) (m_b0) (m_b1) (m_cm) (m_hc)  hc0 hp0 hR hmo hmq (by omega) hA (by decide) (by decide) rfl (by decide) rfl) hZ hc0 cv_X13_172 rfl rfl ⟨Nat.le_of_ble_eq_true rfl, Nat.le_of_ble_eq_true rfl⟩ rfl hl.1 rfl (Nat.le_of_ble_eq_true rfl) dX13_readWhere_17 ⟨(Nat.le_of_ble_eq_true rfl), (Nat.le_of_ble_eq_true rfl)⟩) hZ hnx hlocks (by rintro x9 V9x n9 ⟨rfl, rfl, hqx, frx, zx20, zx21, zx22, zx23, zx24, hox25, hpx26⟩; have b27 := hq_rng zx20; have b28 := hq_rng zx21; have b29 := hq_rng zx22; have b30 := hq_rng zx23; have b31 := hq_rng zx24; have pk32 := hp1.keep (fun x7 (hx7 : q ≤ x7 ∧ x7 < q + 19) => frx x7 (by omega)); exact ⟨rfl, rfl, hP.trans hqx (fun _ h => Bool.noConfusion h), (fun x8 hne0 hne1 => frx x8 hne0), zx20, zx21, zx22, zx23, zx24, rh, hox25, (by have hk9 := hpx26.1; unfold sp_where; (repeat (first | (rw [if_pos]; rotate_left; omega) | (rw [if_neg]; rotate_left; omega))); (try dsimp only); exact hpx26), pk32, hH0⟩) (fun v9 V14 n15 _ _ hw16 hZ => ?_)
    obtain ⟨rfl, rfl, hq18, fr19, z33, z34, z35, ho36, hp37⟩ := hw16
    refine W.eq (g2 := F0 m 20 ls []) rfl ?_
    have b38 := hq_rng z33
    have b39 := hq_rng z34
    have b40 := hq_rng z35
    have hP := hP.trans hq18 (fun _ h => Bool.noConfusion h)
    obtain ⟨b41, hA42⟩ := hp37
    obtain ⟨b43, b44, b45, -⟩ := id hA42
    refine lv_aload_n hx hb dX13_readWhere_20 rfl (lv_at hl 0 rfl) ?_
    refine hp_get (v := .ref (q + 11)) hx hb hts hown hZ ho36 fl_X13_32 rfl dX13_readWhere_21 ?_
    refine lv_iload_n hx hb dX13_readWhere_24 rfl (lv_at hl 1 rfl) ?_
    refine lv_aload_n hx hb dX13_readWhere_25 rfl (lv_at hl 0 rfl) ?_
    have pk46 := hp0.keep (fr19 (q + 20) (hq_tne (hr_20 hR) hmo (by simp)))
    have pk47 := hp1.keep (fun x7 (hx7 : q ≤ x7 ∧ x7 < q + 19) => fr19 x7 (by omega))
    refine hq_callx (hq_runV (As := []) (rest := [.int (k), .ref (q + 11)]) hx hb hml hown hts (y_takeClass l D cs B G V14 n hP.1 (q) (mo) (w) (rh) ((sp_take w 15 j).2) (cl) (m_tp) (m_sz) (z33) (z34) (z35) (m_ft) (m_fa) (m_le) (m_fo) (m_as) (m_fd) (m_bc) (m_bg) (m_bs) (m_be) (m_b0) (m_b1) (m_cm) (m_hc)  ho36 pk46 pk47 hR hmo hmq (by omega) hA42 hCN hcnt) hZ ho36 cv_X13_176 rfl rfl ⟨Nat.le_of_ble_eq_true rfl, Nat.le_of_ble_eq_true rfl⟩ rfl hl.1 rfl (Nat.le_of_ble_eq_true rfl) dX13_readWhere_26 ⟨(Nat.le_of_ble_eq_true rfl), (Nat.le_of_ble_eq_true rfl)⟩) hZ hnx hlocks (by rintro x9 V9x n9 ⟨rfl, rfl, hqx, frx, zx54, zx55, zx56, zx57, zx58, hox59, hpx60⟩; have b61 := hq_rng zx54; have b62 := hq_rng zx55; have b63 := hq_rng zx56; have b64 := hq_rng zx57; have b65 := hq_rng zx58; have pk66 := pk47.keep (fun x7 (hx7 : q ≤ x7 ∧ x7 < q + 19) => frx x7 (by omega)); exact ⟨rfl, rfl, hP.trans hqx (fun _ h => Bool.noConfusion h), (fun x8 hne0 hne1 => (frx x8 hne0).trans (fr19 x8 hne0)), zx54, zx55, zx56, zx57, zx58, rh, hox59, (by have hk9 := hpx60.1; unfold sp_where; (repeat (first | (rw [if_pos]; rotate_left; omega) | (rw [if_neg]; rotate_left; omega))); (try dsimp only); exact hpx60), pk66, hH0⟩) (fun v9 V48 n49 _ _ hw50 hZ => ?_)
    obtain ⟨r51, rfl, rfl, hq52, fr53, z67, z68, z69, ho70, hp71, hp72⟩ := hw50
    refine W.eq (g2 := F0 m 29 ls [.int (r51), .int (k), .ref (q + 11)]) rfl ?_
    have b73 := hq_rng z67
    have b74 := hq_rng z68
    have b75 := hq_rng z69
    have hP := hP.trans hq52 (fun _ h => Bool.noConfusion h)
    have b76 := hq_rng r51
    obtain ⟨b77, hA78, b79⟩ := hp71
    obtain ⟨b80, b81, b82, -⟩ := id hA78
    have pk87 := pk47.keep (fun x7 (hx7 : q ≤ x7 ∧ x7 < q + 19) => fr53 x7 (by omega))
    obtain ⟨rf83, hrf84⟩ : ∃ f : Nat → Int32, f = rh 11 := ⟨_, rfl⟩
    have ea85 : V48 (q + 11) = some (.inl (cs 1, 120, .inl (rf83))) := by rw [hrf84]; exact pk87 11 (by decide)
    have hra86 := hq_rg hP.1 (hr_11 hR) ea85
    refine hp_iast hx hb hZ ea85 (hq_in (by omega) (by omega)) dX13_readWhere_29 (fun V88 _ _ e89 o90 hZ => ?_)
    have e89 : V88 (q + 11) = some (.inl (cs 1, 120, .inl (upd (rf83) ((k : Int32).toNatClampNeg) (r51)))) := e89
    have hP := hP.put (hr_11 hR) e89 o90 (hq_c21 (by omega) (hq_upd hra86 (hq_rng _))) rfl
    obtain ⟨g91, ge92⟩ : ∃ g9 : Nat → Int32, g9 = upd (rf83) ((k : Int32).toNatClampNeg) (r51) := ⟨_, rfl⟩
    have fx93 : V88 (q + 11) = some (.inl (cs 1, 120, .inl (g91))) := by rw [ge92]; exact e89
    have hf94 := hq_rg hP.1 (hr_11 hR) fx93
    obtain ⟨rh95, hrh96⟩ : ∃ r9 : hm_Rh, r9 = hm_u2 rh 11 (k : Int32).toNatClampNeg ((r51 : Int32)) := ⟨_, rfl⟩
    have pk97 : hm_AR cs V88 q rh95 := by rw [hrh96]; exact pk87.put (a := 11) (by decide) (by rw [ge92, hrf84]) fx93 o90
    have hH98 : hm_H rh rh95 := by rw [hrh96]; exact hH0.put (show 60 ≤ (k : Int32).toNatClampNeg by have h8 := (hq_nn (z := k) (by omega)).1; omega)
    have hw99 : hm_W [11] (k).toNatClampNeg rh rh95 := by rw [hrh96]; exact (hm_W.rf).put (by decide)
    have fx100 : V88 (mo) = some (.inr (13, hm_o q (m_tp) (m_sz) (z67) (z68) (z69) (m_ft) (m_fa) (m_le) (m_fo) (m_as) (m_fd) (m_bc) (m_bg) (m_bs) (m_be) (m_b0) (m_b1) (m_cm) (m_hc))) := (o90 (mo) (hq_tne hmo (hr_11 hR) (by simp))).trans (ho70)
    exact hq_vret hx hb hr hlocks hZ ⟨rfl, rfl, hP, (fun x8 hne0 hne1 => (o90 x8 (by omega)).trans ((fr53 x8 hne0).trans (fr19 x8 hne0))), z67, z68, z69, rh95, fx100, (by unfold sp_where; (repeat (first | (rw [if_pos]; rotate_left; omega) | (rw [if_neg]; rotate_left; omega))); (try dsimp only); exact ⟨by first | rfl | omega, hA78, by rw [hrh96, hm_u2e]; omega⟩), pk97, hw99⟩ dX13_readWhere_30
  · have c12 : ¬ (r7).toInt = (0 : Int) := fun h9 => c12 (hq_eqi.mpr h9)
    have b101 : sp_k w (j) = 14 := by have h9 := hp10; omega
    refine lv_aload_n hx hb dX13_readWhere_9 rfl (lv_at hl 0 rfl) ?_
    refine hp_callv (hp_runV (As := []) (rest := []) hx hb hml hown hts (y_next l D cs B G V n hP.1 (q) (mo) (w) (j) (m_tp) (m_sz) (m_fr) (m_bh) (m_hd) (m_ft) (m_fa) (m_le) (m_fo) (m_as) (m_fd) (m_bc) (m_bg) (m_bs) (m_be) (m_b0) (m_b1) (m_cm) (m_hc)  hc0 hp0 hR hmo hmq (by omega) hA (by omega)) hZ hc0 cv_X13_111 rfl rfl ⟨Nat.le_of_ble_eq_true rfl, Nat.le_of_ble_eq_true rfl⟩ rfl hl.1 rfl (Nat.le_of_ble_eq_true rfl) dX13_readWhere_10 ⟨(Nat.le_of_ble_eq_true rfl), (Nat.le_of_ble_eq_true rfl)⟩) hZ (fun V102 n103 _ _ hw104 hZ => ?_)
    obtain ⟨rfl, hq106, fr107, z108, z109, z110, ho111, hp112, hp113⟩ := hw104
    have b114 := hq_rng z108
    have b115 := hq_rng z109
    have b116 := hq_rng z110
    have hP := hP.trans hq106 (fun _ h => Bool.noConfusion h)
    obtain ⟨b117, b118, b119, -⟩ := id hp112
    have pk120 := hp1.keep (fun x7 (hx7 : q ≤ x7 ∧ x7 < q + 19) => fr107 x7 (by omega))
    exact hq_vret hx hb hr hlocks hZ ⟨rfl, rfl, hP, (fun x8 hne0 hne1 => fr107 x8 hne0), z108, z109, z110, rh, ho111, (by unfold sp_where; (repeat (first | (rw [if_pos]; rotate_left; omega) | (rw [if_neg]; rotate_left; omega))); (try dsimp only); exact ⟨by first | rfl | omega, hp112, by have h9 := hw1; omega⟩), pk120, hm_W.rf⟩ dX13_readWhere_13

set_option maxHeartbeats 4000000 in
set_option maxRecDepth 100000 in
theorem y_readSlot (l : Launch) (D : va_G) (cs : Nat → ClassId) (B : Nat) (G : hq_G) (V : hp_V) (n : Nat) (hI : hq_I cs G V) (q : Nat) (mo : Nat) (w : sp_W) (rh : hm_Rh) (j : Nat) (m_tp : Int32) (m_sz : Int32) (m_fr : Int32) (m_bh : Int32) (m_hd : Int32) (m_ft : Int32) (m_fa : Int32) (m_le : Int32) (m_fo : Int32) (m_as : Int32) (m_fd : Int32) (m_bc : Int32) (m_bg : Int32) (m_bs : Int32) (m_be : Int32) (m_b0 : Int32) (m_b1 : Int32) (m_cm : Int32) (m_hc : Int32) (k : Int32) (hc0 : V (mo) = some (.inr (13, hm_o q (m_tp) (m_sz) (m_fr) (m_bh) (m_hd) (m_ft) (m_fa) (m_le) (m_fo) (m_as) (m_fd) (m_bc) (m_bg) (m_bs) (m_be) (m_b0) (m_b1) (m_cm) (m_hc)))) (hp0 : hm_TP cs V q w) (hp1 : hm_AR cs V q rh) (hR : hq_RT G q) (hmo : G mo = some (24, 0, 0, 0)) (hmq : mo < q) (hsz : m_sz.toInt = w.2) (hA : hm_A w j m_fr m_bh m_hd) (hk : 60 ≤ k.toInt ∧ k.toInt < 120) (hw1 : (rh 13 (k).toNatClampNeg).toInt = -1) : hq_M l yX13_readSlot cX13_readSlot 2 none ({ frames := 7, cells := 0, slots := 0, locals := 150 }) D cs B V n [.ref (mo), .int (k)] (hq_QX D cs B (fun v V' n' => v = none ∧ n = n' ∧ hq_P cs G (fun _ => true) V V' ∧ (∀ x, x ≠ mo → (x < q ∨ q + 19 ≤ x) → V' x = V x) ∧ (∃ m_fr1 : Int32, ∃ m_bh1 : Int32, ∃ m_hd1 : Int32, ∃ rh1 : hm_Rh, V' (mo) = some (.inr (13, hm_o q (m_tp) (m_sz) (m_fr1) (m_bh1) (m_hd1) (m_ft) (m_fa) (m_le) (m_fo) (m_as) (m_fd) (m_bc) (m_bg) (m_bs) (m_be) (m_b0) (m_b1) (m_cm) (m_hc))) ∧ ((sp_slot w j).1 = 0 ∧ hm_A w (sp_slot w j).2.1 m_fr1 m_bh1 m_hd1 ∧ (rh1 12 (k).toNatClampNeg).toInt = (sp_slot w j).2.2.1 ∧ (rh1 13 (k).toNatClampNeg).toInt = (sp_slot w j).2.2.2) ∧ (hm_AR cs V' q rh1) ∧ (hm_W [12, 13] (k).toNatClampNeg rh rh1))) (fun x V' n' => x = q + 19 ∧ n = n' ∧ hq_P cs G (fun _ => true) V V' ∧ (∀ x, x ≠ mo → (x < q ∨ q + 19 ≤ x) → V' x = V x) ∧ (∃ m_fr1 : Int32, ∃ m_bh1 : Int32, ∃ m_hd1 : Int32, ∃ m_ft1 : Int32, ∃ m_fa1 : Int32, ∃ rh1 : hm_Rh, V' (mo) = some (.inr (13, hm_o q (m_tp) (m_sz) (m_fr1) (m_bh1) (m_hd1) (m_ft1) (m_fa1) (m_le) (m_fo) (m_as) (m_fd) (m_bc) (m_bg) (m_bs) (m_be) (m_b0) (m_b1) (m_cm) (m_hc))) ∧ (hx_F w (sp_slot w j).1 (sp_slot w j).2.1 m_ft1 m_fa1) ∧ (hm_AR cs V' q rh1) ∧ (hm_H rh rh1)))) 0 0 := by
  refine hq_walk (R0 := RX13) (by decide) rfl ?_ (Nat.le_of_ble_eq_true rfl)
  intro p e s m below meth c ls hx hb hr hts hown hlocks hin hml hnx hZ hl
  have hP : hq_P cs G (fun _ => true) V V := hq_P.rf hI
  have hl : lv_has ls 2 [(0, .ref (mo)), (1, .int (k))] := hl
  have hb_m_tp := hq_rng m_tp
  have hb_m_sz := hq_rng m_sz
  have hb_m_fr := hq_rng m_fr
  have hb_m_bh := hq_rng m_bh
  have hb_m_hd := hq_rng m_hd
  have hb_m_ft := hq_rng m_ft
  have hb_m_fa := hq_rng m_fa
  have hb_m_le := hq_rng m_le
  have hb_m_fo := hq_rng m_fo
  have hb_m_as := hq_rng m_as
  have hb_m_fd := hq_rng m_fd
  have hb_m_bc := hq_rng m_bc
  have hb_m_bg := hq_rng m_bg
  have hb_m_bs := hq_rng m_bs
  have hb_m_be := hq_rng m_be
  have hb_m_b0 := hq_rng m_b0
  have hb_m_b1 := hq_rng m_b1
  have hb_m_cm := hq_rng m_cm
  have hb_m_hc := hq_rng m_hc
  have hb_k := hq_rng k
  obtain ⟨b1, b2, b3, -⟩ := id hA
  have hH0 : hm_H rh rh := hm_H.rf
  refine lv_aload_n hx hb dX13_readSlot_0 rfl (lv_at hl 0 rfl) ?_
  refine va_ldcS (tx := (hp_so.getD 10 ("", 0, "")).2.2) (q := cs (100 + 10)) hx hb hown (hZ.2.2.2.2.2.2.2.2.2.2 10 (by decide)) dX13_readSlot_1 ?_
  refine hq_callx (hq_runV (As := [.ref (cs (100 + 10))]) (rest := []) hx hb hml hown hts (y_need l D cs B G V n hP.1 (q) (mo) (w) (j) (10) (11) (11) (m_tp) (m_sz) (m_fr) (m_bh) (m_hd) (m_ft) (m_fa) (m_le) (m_fo) (m_as) (m_fd) (m_bc) (m_bg) (m_bs) (m_be) (m_b0) (m_b1) (m_cm) (m_hc)  hc0 hp0 hR hmo hmq (by omega) hA (by decide) (by decide) rfl (by decide) rfl) hZ hc0 cv_X13_172 rfl rfl ⟨Nat.le_of_ble_eq_true rfl, Nat.le_of_ble_eq_true rfl⟩ rfl hl.1 rfl (Nat.le_of_ble_eq_true rfl) dX13_readSlot_3 ⟨(Nat.le_of_ble_eq_true rfl), (Nat.le_of_ble_eq_true rfl)⟩) hZ hnx hlocks (by rintro x9 V9x n9 ⟨rfl, rfl, hqx, frx, zx10, zx11, zx12, zx13, zx14, hox15, hpx16⟩; have b17 := hq_rng zx10; have b18 := hq_rng zx11; have b19 := hq_rng zx12; have b20 := hq_rng zx13; have b21 := hq_rng zx14; have pk22 := hp1.keep (fun x7 (hx7 : q ≤ x7 ∧ x7 < q + 19) => frx x7 (by omega)); exact ⟨rfl, rfl, hP.trans hqx (fun _ h => Bool.noConfusion h), (fun x8 hne0 hne1 => frx x8 hne0), zx10, zx11, zx12, zx13, zx14, rh, hox15, (by have hk9 := hpx16.1; unfold sp_slot; (repeat (first | (rw [if_pos]; rotate_left; omega) | (rw [if_neg]; rotate_left; omega))); (try dsimp only); exact hpx16), pk22, hH0⟩) (fun v9 V4 n5 _ _ hw6 hZ => ?_)
  obtain ⟨rfl, rfl, hq8, fr9, z23, z24, z25, ho26, hp27⟩ := hw6
  refine W.eq (g2 := F0 m 6 ls []) rfl ?_
  have b28 := hq_rng z23
  have b29 := hq_rng z24
  have b30 := hq_rng z25
  have hP := hP.trans hq8 (fun _ h => Bool.noConfusion h)
  obtain ⟨b31, hA32⟩ := hp27
  obtain ⟨b33, b34, b35, -⟩ := id hA32
  refine lv_aload_n hx hb dX13_readSlot_6 rfl (lv_at hl 0 rfl) ?_
  refine hp_get (v := .ref (q + 12)) hx hb hts hown hZ ho26 fl_X13_35 rfl dX13_readSlot_7 ?_
  refine lv_iload_n hx hb dX13_readSlot_10 rfl (lv_at hl 1 rfl) ?_
  refine lv_aload_n hx hb dX13_readSlot_11 rfl (lv_at hl 0 rfl) ?_
  refine lv_iconst (v := 4) hx hb dX13_readSlot_12 (by decide) ?_
  have hl36 : (4 : Int32).toInt = 4 := by decide
  have pk37 := hp0.keep (fr9 (q + 20) (hq_tne (hr_20 hR) hmo (by simp)))
  refine hq_callx (hq_runV (As := [.int (4)]) (rest := [.int (k), .ref (q + 12)]) hx hb hml hown hts (y_digit l D cs B G V4 n hP.1 (q) (mo) (w) ((sp_take w 11 j).2) (5) (4) (m_tp) (m_sz) (z23) (z24) (z25) (m_ft) (m_fa) (m_le) (m_fo) (m_as) (m_fd) (m_bc) (m_bg) (m_bs) (m_be) (m_b0) (m_b1) (m_cm) (m_hc)  ho26 pk37 hR hmo hmq (by omega) hA32 (by decide) (by decide)) hZ ho26 cv_X13_202 rfl rfl ⟨Nat.le_of_ble_eq_true rfl, Nat.le_of_ble_eq_true rfl⟩ rfl hl.1 rfl (Nat.le_of_ble_eq_true rfl) dX13_readSlot_13 ⟨(Nat.le_of_ble_eq_true rfl), (Nat.le_of_ble_eq_true rfl)⟩) hZ hnx hlocks (by rintro x9 V9x n9 ⟨rfl, rfl, hqx, frx, zx44, zx45, zx46, zx47, zx48, hox49, hpx50⟩; have b51 := hq_rng zx44; have b52 := hq_rng zx45; have b53 := hq_rng zx46; have b54 := hq_rng zx47; have b55 := hq_rng zx48; have pk56 := hp1.keep (fun x7 (hx7 : q ≤ x7 ∧ x7 < q + 19) => (frx x7 (by omega)).trans (fr9 x7 (by omega))); exact ⟨rfl, rfl, hP.trans hqx (fun _ h => Bool.noConfusion h), (fun x8 hne0 hne1 => (frx x8 hne0).trans (fr9 x8 hne0)), zx44, zx45, zx46, zx47, zx48, rh, hox49, (by have hk9 := hpx50.1; unfold sp_slot; (repeat (first | (rw [if_pos]; rotate_left; omega) | (rw [if_neg]; rotate_left; omega))); (try dsimp only); exact hpx50), pk56, hH0⟩) (fun v9 V38 n39 _ _ hw40 hZ => ?_)
  obtain ⟨r41, rfl, rfl, hq42, fr43, z57, z58, z59, ho60, hp61, hp62⟩ := hw40
  refine W.eq (g2 := F0 m 16 ls [.int (r41), .int (k), .ref (q + 12)]) rfl ?_
  have b63 := hq_rng z57
  have b64 := hq_rng z58
  have b65 := hq_rng z59
  have hP := hP.trans hq42 (fun _ h => Bool.noConfusion h)
  have b66 := hq_rng r41
  obtain ⟨b67, hA68, b69⟩ := hp61
  obtain ⟨b70, b71, b72, -⟩ := id hA68
  have pk77 := hp1.keep (fun x7 (hx7 : q ≤ x7 ∧ x7 < q + 19) => (fr43 x7 (by omega)).trans (fr9 x7 (by omega)))
  obtain ⟨rf73, hrf74⟩ : ∃ f : Nat → Int32, f = rh 12 := ⟨_, rfl⟩
  have ea75 : V38 (q + 12) = some (.inl (cs 1, 120, .inl (rf73))) := by rw [hrf74]; exact pk77 12 (by decide)
  have hra76 := hq_rg hP.1 (hr_12 hR) ea75
  refine hp_iast hx hb hZ ea75 (hq_in (by omega) (by omega)) dX13_readSlot_16 (fun V78 _ _ e79 o80 hZ => ?_)
  have e79 : V78 (q + 12) = some (.inl (cs 1, 120, .inl (upd (rf73) ((k : Int32).toNatClampNeg) (r41)))) := e79
  have hP := hP.put (hr_12 hR) e79 o80 (hq_c21 (by omega) (hq_upd hra76 (hq_rng _))) rfl
  obtain ⟨g81, ge82⟩ : ∃ g9 : Nat → Int32, g9 = upd (rf73) ((k : Int32).toNatClampNeg) (r41) := ⟨_, rfl⟩
  have fx83 : V78 (q + 12) = some (.inl (cs 1, 120, .inl (g81))) := by rw [ge82]; exact e79
  have hf84 := hq_rg hP.1 (hr_12 hR) fx83
  obtain ⟨rh85, hrh86⟩ : ∃ r9 : hm_Rh, r9 = hm_u2 rh 12 (k : Int32).toNatClampNeg ((r41 : Int32)) := ⟨_, rfl⟩
  have pk87 : hm_AR cs V78 q rh85 := by rw [hrh86]; exact pk77.put (a := 12) (by decide) (by rw [ge82, hrf74]) fx83 o80
  have hH88 : hm_H rh rh85 := by rw [hrh86]; exact hH0.put (show 60 ≤ (k : Int32).toNatClampNeg by have h8 := (hq_nn (z := k) (by omega)).1; omega)
  refine lv_aload_n hx hb dX13_readSlot_17 rfl (lv_at hl 0 rfl) ?_
  refine va_ldcS (tx := (hp_so.getD 17 ("", 0, "")).2.2) (q := cs (100 + 17)) hx hb hown (hZ.2.2.2.2.2.2.2.2.2.2 17 (by decide)) dX13_readSlot_18 ?_
  have fx89 : V78 (mo) = some (.inr (13, hm_o q (m_tp) (m_sz) (z57) (z58) (z59) (m_ft) (m_fa) (m_le) (m_fo) (m_as) (m_fd) (m_bc) (m_bg) (m_bs) (m_be) (m_b0) (m_b1) (m_cm) (m_hc))) := (o80 (mo) (hq_tne hmo (hr_12 hR) (by simp))).trans (ho60)
  have pk90 := pk37.keep ((o80 (q + 20) (hq_tne (hr_20 hR) (hr_12 hR) (by simp))).trans (fr43 (q + 20) (hq_tne (hr_20 hR) hmo (by simp))))
  refine hp_calli (hp_runV (As := [.ref (cs (100 + 17))]) (rest := []) hx hb hml hown hts (y_is l D cs B G V78 n hP.1 (q) (mo) (w) ((sp_num w 5 ((sp_take w 11 j).2)).2.1) (17) (16) (m_tp) (m_sz) (z57) (z58) (z59) (m_ft) (m_fa) (m_le) (m_fo) (m_as) (m_fd) (m_bc) (m_bg) (m_bs) (m_be) (m_b0) (m_b1) (m_cm) (m_hc)  fx89 pk90 hR hmo (by omega) hA68 (by decide) (by decide) rfl) hZ fx89 cv_X13_103 rfl rfl ⟨Nat.le_of_ble_eq_true rfl, Nat.le_of_ble_eq_true rfl⟩ rfl hl.1 rfl (Nat.le_of_ble_eq_true rfl) dX13_readSlot_20 ⟨(Nat.le_of_ble_eq_true rfl), (Nat.le_of_ble_eq_true rfl)⟩) hZ (fun r94 V91 n92 _ _ hw93 hZ => ?_)
  obtain ⟨rfl, rfl, hp97⟩ := hw93
  have b98 := hq_rng r94
  refine lv_if_ne (tgt := 27) hx hb dX13_readSlot_23 (by decide) (fun c99 => ?_) (fun c99 => ?_)
  · have c99 : ¬ (r94).toInt = (0 : Int) := fun h9 => c99 (hq_eqi.mpr h9)
    have b100 : sp_k w ((sp_num w 5 ((sp_take w 11 j).2)).2.1) = 16 := by have h9 := hp97; omega
    refine lv_aload_n hx hb dX13_readSlot_27 rfl (lv_at hl 0 rfl) ?_
    refine hp_callv (hp_runV (As := []) (rest := []) hx hb hml hown hts (y_next l D cs B G V78 n hP.1 (q) (mo) (w) ((sp_num w 5 ((sp_take w 11 j).2)).2.1) (m_tp) (m_sz) (z57) (z58) (z59) (m_ft) (m_fa) (m_le) (m_fo) (m_as) (m_fd) (m_bc) (m_bg) (m_bs) (m_be) (m_b0) (m_b1) (m_cm) (m_hc)  fx89 pk90 hR hmo hmq (by omega) hA68 (by omega)) hZ fx89 cv_X13_111 rfl rfl ⟨Nat.le_of_ble_eq_true rfl, Nat.le_of_ble_eq_true rfl⟩ rfl hl.1 rfl (Nat.le_of_ble_eq_true rfl) dX13_readSlot_28 ⟨(Nat.le_of_ble_eq_true rfl), (Nat.le_of_ble_eq_true rfl)⟩) hZ (fun V101 n102 _ _ hw103 hZ => ?_)
    obtain ⟨rfl, hq105, fr106, z107, z108, z109, ho110, hp111, hp112⟩ := hw103
    have b113 := hq_rng z107
    have b114 := hq_rng z108
    have b115 := hq_rng z109
    have hP := hP.trans hq105 (fun _ h => Bool.noConfusion h)
    obtain ⟨b116, b117, b118, -⟩ := id hp111
    refine lv_aload_n hx hb dX13_readSlot_31 rfl (lv_at hl 0 rfl) ?_
    refine hp_get (v := .ref (q + 13)) hx hb hts hown hZ ho110 fl_X13_38 rfl dX13_readSlot_32 ?_
    refine lv_iload_n hx hb dX13_readSlot_35 rfl (lv_at hl 1 rfl) ?_
    refine lv_aload_n hx hb dX13_readSlot_36 rfl (lv_at hl 0 rfl) ?_
    refine lv_iconst (v := 5) hx hb dX13_readSlot_37 (by decide) ?_
    have hl119 : (5 : Int32).toInt = 5 := by decide
    have pk120 := pk90.keep (fr106 (q + 20) (hq_tne (hr_20 hR) hmo (by simp)))
    refine hq_callx (hq_runV (As := [.int (5)]) (rest := [.int (k), .ref (q + 13)]) hx hb hml hown hts (y_digit l D cs B G V101 n hP.1 (q) (mo) (w) ((sp_num w 5 ((sp_take w 11 j).2)).2.1 + 1) (6) (5) (m_tp) (m_sz) (z107) (z108) (z109) (m_ft) (m_fa) (m_le) (m_fo) (m_as) (m_fd) (m_bc) (m_bg) (m_bs) (m_be) (m_b0) (m_b1) (m_cm) (m_hc)  ho110 pk120 hR hmo hmq (by omega) hp111 (by decide) (by decide)) hZ ho110 cv_X13_202 rfl rfl ⟨Nat.le_of_ble_eq_true rfl, Nat.le_of_ble_eq_true rfl⟩ rfl hl.1 rfl (Nat.le_of_ble_eq_true rfl) dX13_readSlot_38 ⟨(Nat.le_of_ble_eq_true rfl), (Nat.le_of_ble_eq_true rfl)⟩) hZ hnx hlocks (by rintro x9 V9x n9 ⟨rfl, rfl, hqx, frx, zx127, zx128, zx129, zx130, zx131, hox132, hpx133⟩; have b134 := hq_rng zx127; have b135 := hq_rng zx128; have b136 := hq_rng zx129; have b137 := hq_rng zx130; have b138 := hq_rng zx131; have pk139 := pk87.keep (fun x7 (hx7 : q ≤ x7 ∧ x7 < q + 19) => (frx x7 (by omega)).trans (fr106 x7 (by omega))); exact ⟨rfl, rfl, hP.trans hqx (fun _ h => Bool.noConfusion h), (fun x8 hne0 hne1 => (frx x8 hne0).trans ((fr106 x8 hne0).trans ((o80 x8 (by omega)).trans ((fr43 x8 hne0).trans (fr9 x8 hne0))))), zx127, zx128, zx129, zx130, zx131, rh85, hox132, (by have hk9 := hpx133.1; unfold sp_slot; (repeat (first | (rw [if_pos]; rotate_left; omega) | (rw [if_neg]; rotate_left; omega))); (try dsimp only); exact hpx133), pk139, hH88⟩) (fun v9 V121 n122 _ _ hw123 hZ => ?_)
    obtain ⟨r124, rfl, rfl, hq125, fr126, z140, z141, z142, ho143, hp144, hp145⟩ := hw123
    refine W.eq (g2 := F0 m 41 ls [.int (r124), .int (k), .ref (q + 13)]) rfl ?_
    have b146 := hq_rng z140
    have b147 := hq_rng z141
    have b148 := hq_rng z142
    have hP := hP.trans hq125 (fun _ h => Bool.noConfusion h)
    have b149 := hq_rng r124
    obtain ⟨b150, hA151, b152⟩ := hp144
    obtain ⟨b153, b154, b155, -⟩ := id hA151
    have pk160 := pk87.keep (fun x7 (hx7 : q ≤ x7 ∧ x7 < q + 19) => (fr126 x7 (by omega)).trans (fr106 x7 (by omega)))
    obtain ⟨rf156, hrf157⟩ : ∃ f : Nat → Int32, f = rh85 13 := ⟨_, rfl⟩
    have ea158 : V121 (q + 13) = some (.inl (cs 1, 120, .inl (rf156))) := by rw [hrf157]; exact pk160 13 (by decide)
    have hra159 := hq_rg hP.1 (hr_13 hR) ea158
    refine hp_iast hx hb hZ ea158 (hq_in (by omega) (by omega)) dX13_readSlot_41 (fun V161 _ _ e162 o163 hZ => ?_)
    have e162 : V161 (q + 13) = some (.inl (cs 1, 120, .inl (upd (rf156) ((k : Int32).toNatClampNeg) (r124)))) := e162
    have hP := hP.put (hr_13 hR) e162 o163 (hq_c21 (by omega) (hq_upd hra159 (hq_rng _))) rfl
    obtain ⟨g164, ge165⟩ : ∃ g9 : Nat → Int32, g9 = upd (rf156) ((k : Int32).toNatClampNeg) (r124) := ⟨_, rfl⟩
    have fx166 : V161 (q + 13) = some (.inl (cs 1, 120, .inl (g164))) := by rw [ge165]; exact e162
    have hf167 := hq_rg hP.1 (hr_13 hR) fx166
    obtain ⟨rh168, hrh169⟩ : ∃ r9 : hm_Rh, r9 = hm_u2 rh85 13 (k : Int32).toNatClampNeg ((r124 : Int32)) := ⟨_, rfl⟩
    have pk170 : hm_AR cs V161 q rh168 := by rw [hrh169]; exact pk160.put (a := 13) (by decide) (by rw [ge165, hrf157]) fx166 o163
    have hH171 : hm_H rh rh168 := by rw [hrh169]; exact hH88.put (show 60 ≤ (k : Int32).toNatClampNeg by have h8 := (hq_nn (z := k) (by omega)).1; omega)
    have hw172 : hm_W [12, 13] (k).toNatClampNeg rh rh85 := by rw [hrh86]; exact (hm_W.rf).put (by decide)
    have hw173 : hm_W [12, 13] (k).toNatClampNeg rh rh168 := by rw [hrh169]; exact (hw172).put (by decide)
    have fx174 : V161 (mo) = some (.inr (13, hm_o q (m_tp) (m_sz) (z140) (z141) (z142) (m_ft) (m_fa) (m_le) (m_fo) (m_as) (m_fd) (m_bc) (m_bg) (m_bs) (m_be) (m_b0) (m_b1) (m_cm) (m_hc))) := (o163 (mo) (hq_tne hmo (hr_13 hR) (by simp))).trans (ho143)
    exact hq_vret hx hb hr hlocks hZ ⟨rfl, rfl, hP, (fun x8 hne0 hne1 => (o163 x8 (by omega)).trans ((fr126 x8 hne0).trans ((fr106 x8 hne0).trans ((o80 x8 (by omega)).trans ((fr43 x8 hne0).trans (fr9 x8 hne0)))))), z140, z141, z142, rh168, fx174, (by unfold sp_slot; (repeat (first | (rw [if_pos]; rotate_left; omega) | (rw [if_neg]; rotate_left; omega))); (try dsimp only); exact ⟨by first | rfl | omega, hA151, by rw [hrh169, hm_u2a (by decide)]; rw [hrh86, hm_u2e]; omega, by rw [hrh169, hm_u2e]; omega⟩), pk170, hw173⟩ dX13_readSlot_42
  · have c99 : (r94).toInt = (0 : Int) := hq_eqi.mp c99
    have b175 : ¬ sp_k w ((sp_num w 5 ((sp_take w 11 j).2)).2.1) = 16 := by have h9 := hp97; omega
    have hw176 : hm_W [12, 13] (k).toNatClampNeg rh rh85 := by rw [hrh86]; exact (hm_W.rf).put (by decide)
    exact hq_vret hx hb hr hlocks hZ ⟨rfl, rfl, hP, (fun x8 hne0 hne1 => (o80 x8 (by omega)).trans ((fr43 x8 hne0).trans (fr9 x8 hne0))), z57, z58, z59, rh85, fx89, (by unfold sp_slot; (repeat (first | (rw [if_pos]; rotate_left; omega) | (rw [if_neg]; rotate_left; omega))); (try dsimp only); exact ⟨by first | rfl | omega, hA68, by rw [hrh86, hm_u2e]; omega, by have h9 := hw1; rw [hrh86, hm_u2a (by decide)]; omega⟩), pk87, hw176⟩ dX13_readSlot_26

set_option maxHeartbeats 4000000 in
set_option maxRecDepth 100000 in
theorem y_alike (l : Launch) (D : va_G) (cs : Nat → ClassId) (B : Nat) (G : hq_G) (V : hp_V) (n : Nat) (hI : hq_I cs G V) (q : Nat) (mo : Nat) (w : sp_W) (rh : hm_Rh) (lz : List sp_L) (m_tp : Int32) (m_sz : Int32) (m_fr : Int32) (m_bh : Int32) (m_hd : Int32) (m_ft : Int32) (m_fa : Int32) (m_le : Int32) (m_fo : Int32) (m_as : Int32) (m_fd : Int32) (m_bc : Int32) (m_bg : Int32) (m_bs : Int32) (m_be : Int32) (m_b0 : Int32) (m_b1 : Int32) (m_cm : Int32) (m_hc : Int32) (k : Int32) (hc0 : V (mo) = some (.inr (13, hm_o q (m_tp) (m_sz) (m_fr) (m_bh) (m_hd) (m_ft) (m_fa) (m_le) (m_fo) (m_as) (m_fd) (m_bc) (m_bg) (m_bs) (m_be) (m_b0) (m_b1) (m_cm) (m_hc)))) (hp0 : hm_AR cs V q rh) (hR : hq_RT G q) (hmo : G mo = some (24, 0, 0, 0)) (hmq : mo < q) (hk : k.toInt = 60 + (lz.length : Int)) (hk2 : k.toInt < 120) (hLL : hm_LL rh 60 w lz) : hp_M l yX13_alike cX13_alike 4 (some .int) ({ frames := 1, cells := 0, slots := 0, locals := 21 }) D cs B V n [.ref (mo), .int (k)] (hp_QI D cs B (fun r V' n' => n = n' ∧ V = V' ∧ (r.toInt = sp_like (rh 11 (k).toNatClampNeg).toInt (rh 12 (k).toNatClampNeg).toInt (rh 13 (k).toNatClampNeg).toInt lz 0))) 0 0 := by
  refine hp_walk (R0 := RX13) (by decide) rfl ?_ (Nat.le_of_ble_eq_true rfl)
  intro p e s m below meth c ls hx hb hr hts hown hlocks hin hml hZ hl
  have hP : hq_I cs G V := hI
  have hl : lv_has ls 4 [(0, .ref (mo)), (1, .int (k))] := hl
  have hb_m_tp := hq_rng m_tp
  have hb_m_sz := hq_rng m_sz
  have hb_m_fr := hq_rng m_fr
  have hb_m_bh := hq_rng m_bh
  have hb_m_hd := hq_rng m_hd
  have hb_m_ft := hq_rng m_ft
  have hb_m_fa := hq_rng m_fa
  have hb_m_le := hq_rng m_le
  have hb_m_fo := hq_rng m_fo
  have hb_m_as := hq_rng m_as
  have hb_m_fd := hq_rng m_fd
  have hb_m_bc := hq_rng m_bc
  have hb_m_bg := hq_rng m_bg
  have hb_m_bs := hq_rng m_bs
  have hb_m_be := hq_rng m_be
  have hb_m_b0 := hq_rng m_b0
  have hb_m_b1 := hq_rng m_b1
  have hb_m_cm := hq_rng m_cm
  have hb_m_hc := hq_rng m_hc
  have hb_k := hq_rng k
  refine lv_iconst (v := 0) hx hb dX13_alike_0 (by decide) ?_
  refine lv_istore_n (lv' := [(2, .int (0)), (0, .ref (mo)), (1, .int (k))]) hx hb dX13_alike_1 rfl hl (by decide) rfl (fun ls hl => ?_)
  refine lv_bipush (v := 60) hx hb dX13_alike_2 (by decide) ?_
  refine lv_istore_n (lv' := [(3, .int (60)), (2, .int (0)), (0, .ref (mo)), (1, .int (k))]) hx hb dX13_alike_4 rfl hl (by decide) rfl (fun ls hl => ?_)
  have hl1 : (0 : Int32).toInt = 0 := by decide
  have hl2 : (60 : Int32).toInt = 60 := by decide
  suffices lp5 : ∀ (k9 : Nat) (H9 : Heap) (locs9 : List Loc) (ls : Array Slot) (no : Int32) (i : Int32), (200 - i.toInt).toNat = k9 → hp_Z D cs B s V H9 n locs9 → hq_I cs G V → 60 ≤ i.toInt → i.toInt ≤ k.toInt → 0 ≤ no.toInt ∧ no.toInt ≤ i.toInt → (sp_like (rh 11 (k).toNatClampNeg).toInt (rh 12 (k).toNatClampNeg).toInt (rh 13 (k).toNatClampNeg).toInt (lz.drop (i.toNatClampNeg - 60)) no.toInt = sp_like (rh 11 (k).toNatClampNeg).toInt (rh 12 (k).toNatClampNeg).toInt (rh 13 (k).toNatClampNeg).toInt lz 0) → lv_has ls 4 [(3, .int (i)), (2, .int (no)), (0, .ref (mo)), (1, .int (k))] → W p l e ({ frames := 1, cells := 0, slots := 0, locals := 21 }) s m ([.ref (mo), .int (k)] : List Value).toArray below meth c H9 locs9 0 0 (MQ below (hp_QI D cs B (fun r V' n' => n = n' ∧ V = V' ∧ (r.toInt = sp_like (rh 11 (k).toNatClampNeg).toInt (rh 12 (k).toNatClampNeg).toInt (rh 13 (k).toNatClampNeg).toInt lz 0))) ([.ref (mo), .int (k)] : List Value).toArray s 0 0 (hp_F B)) (F0 m 5 ls []) from lp5 _ _ _ ls (0) (60) rfl hZ hP (by omega) (by omega) (by omega) (rfl) (lv_sub hl [0, 1, 2, 3] rfl)
  intro k9
  induction k9 using Nat.strongRecOn with
  | _ k9 ih5 =>
    intro H9 locs9 ls no i   hk5 hZ hP    hv3 hv4 hv5 hlk hl
    have hb_no := hq_rng no
    have hb_i := hq_rng i
    refine lv_iload_n hx hb dX13_alike_5 rfl (lv_at hl 0 rfl) ?_
    refine lv_iload_n hx hb dX13_alike_6 rfl (lv_at hl 3 rfl) ?_
    refine lv_icmp_ge (tgt := 79) hx hb dX13_alike_7 (by decide) (fun c6 => ?_) (fun c6 => ?_)
    · have c6 : (k).toInt ≤ (i).toInt := hq_lei.mp c6
      refine lv_iload_n hx hb dX13_alike_79 rfl (lv_at hl 1 rfl) ?_
      exact hp_iret hx hb hr hlocks hZ ⟨rfl, rfl, by rw [← hlk, sp_like_out (by have h8 := (hq_nn (z := i) (by omega)).1; omega)]⟩ dX13_alike_80
    · have c6 : ¬ (k).toInt ≤ (i).toInt := fun h9 => c6 (hq_lei.mpr h9)
      have hii : (i.toNatClampNeg : Int) = i.toInt := (hq_nn (by omega)).1.symm
      obtain ⟨x9, hx9⟩ : ∃ t, lz[i.toNatClampNeg - 60]? = some t := ⟨_, List.getElem?_eq_getElem (by omega)⟩
      obtain ⟨ha1, ha2, ha3, ha4, -⟩ := hLL.2 _ _ hx9
      rw [show 60 + (i.toNatClampNeg - 60) = i.toNatClampNeg by omega] at ha1 ha2 ha3 ha4
      refine lv_iload_n hx hb dX13_alike_10 rfl (lv_at hl 1 rfl) ?_
      refine lv_aload_n hx hb dX13_alike_11 rfl (lv_at hl 2 rfl) ?_
      refine hp_get (v := .ref (q + 10)) hx hb hts hown hZ hc0 fl_X13_29 rfl dX13_alike_12 ?_
      refine lv_iload_n hx hb dX13_alike_15 rfl (lv_at hl 0 rfl) ?_
      obtain ⟨rf7, hrf8⟩ : ∃ f : Nat → Int32, f = rh 10 := ⟨_, rfl⟩
      have ea9 : V (q + 10) = some (.inl (cs 1, 120, .inl (rf7))) := by rw [hrf8]; exact hp0 10 (by decide)
      have hra10 := hq_rg hP (hr_10 hR) ea9
      refine hp_iald hx hb hZ ea9 (hq_in (by omega) (by omega)) dX13_alike_16 ?_
      refine lv_topi (fun y11 ey12 => ?_)
      have b13 := hq_rng y11
      have b14 : (y11).toInt = (rh 10 (i).toNatClampNeg).toInt := by rw [ey12, hrf8]
      refine lv_iconst (v := 4) hx hb dX13_alike_17 (by decide) ?_
      refine lv_icmp_ne (tgt := 70) hx hb dX13_alike_18 (by decide) (fun c15 => ?_) (fun c15 => ?_)
      · have c15 : ¬ (y11).toInt = (4 : Int) := fun h9 => c15 (hq_eqi.mpr h9)
        refine lv_iconst (v := 0) hx hb dX13_alike_70 (by decide) ?_
        have hl16 : (0 : Int32).toInt = 0 := by decide
        refine lv_iadd hx hb dX13_alike_71 ?_
        refine lv_topi (fun y17 ey18 => ?_)
        obtain ⟨k19, hk20, b21, b22⟩ := hq_add (no) (0)
        rw [← ey18] at hk20 b21 b22
        have hk20 : (y17).toInt = (no).toInt + (0 : Int) + k19 * 4294967296 := hk20
        obtain rfl : k19 = 0 := by omega
        refine lv_istore_n (lv' := [(2, .int (y17)), (3, .int (i)), (0, .ref (mo)), (1, .int (k))]) hx hb dX13_alike_72 rfl hl (by decide) rfl (fun ls hl => ?_)
        obtain ⟨y23, ey24⟩ : ∃ y : Int32, y = i + (1) := ⟨_, rfl⟩
        obtain ⟨k25, hk26, b27, b28⟩ := hq_add (i) (1)
        rw [← ey24] at hk26 b27 b28
        have hk26 : (y23).toInt = (i).toInt + (1) + k25 * 4294967296 := hk26
        obtain rfl : k25 = 0 := by omega
        refine lv_iinc (v := y23) (lv' := [(3, .int (y23)), (2, .int (y17)), (0, .ref (mo)), (1, .int (k))]) hx hb dX13_alike_73 hl (k := 1) rfl (by rw [ey24]; rfl) (by decide) rfl (fun ls hl => ?_)
        refine lv_goto (tgt := 5) hx hb dX13_alike_76 (by decide) ?_
        exact ih5 _ (by omega) _ _ ls (y17) (y23) rfl hZ hP (by omega) (by omega) (by omega) (by rw [← hlk, sp_like_go hx9, if_neg (by omega), show (y23).toNatClampNeg - 60 = i.toNatClampNeg - 60 + 1 from (by have h8 := (hq_nn (z := y23) (by omega)).1; omega), show (y17).toInt = no.toInt by omega]) (lv_sub hl [0, 1, 2, 3] rfl)
      · have c15 : (y11).toInt = (4 : Int) := hq_eqi.mp c15
        refine lv_aload_n hx hb dX13_alike_21 rfl (lv_at hl 2 rfl) ?_
        refine hp_get (v := .ref (q + 11)) hx hb hts hown hZ hc0 fl_X13_32 rfl dX13_alike_22 ?_
        refine lv_iload_n hx hb dX13_alike_25 rfl (lv_at hl 0 rfl) ?_
        obtain ⟨rf29, hrf30⟩ : ∃ f : Nat → Int32, f = rh 11 := ⟨_, rfl⟩
        have ea31 : V (q + 11) = some (.inl (cs 1, 120, .inl (rf29))) := by rw [hrf30]; exact hp0 11 (by decide)
        have hra32 := hq_rg hP (hr_11 hR) ea31
        refine hp_iald hx hb hZ ea31 (hq_in (by omega) (by omega)) dX13_alike_26 ?_
        refine lv_topi (fun y33 ey34 => ?_)
        have b35 := hq_rng y33
        have b36 : (y33).toInt = (rh 11 (i).toNatClampNeg).toInt := by rw [ey34, hrf30]
        refine lv_aload_n hx hb dX13_alike_27 rfl (lv_at hl 2 rfl) ?_
        refine hp_get (v := .ref (q + 11)) hx hb hts hown hZ hc0 fl_X13_32 rfl dX13_alike_28 ?_
        refine lv_iload_n hx hb dX13_alike_31 rfl (lv_at hl 3 rfl) ?_
        refine hp_iald hx hb hZ ea31 (hq_in (by omega) (by omega)) dX13_alike_32 ?_
        refine lv_topi (fun y37 ey38 => ?_)
        have b39 := hq_rng y37
        have b40 : (y37).toInt = (rh 11 (k).toNatClampNeg).toInt := by rw [ey38, hrf30]
        refine lv_icmp_ne (tgt := 70) hx hb dX13_alike_33 (by decide) (fun c41 => ?_) (fun c41 => ?_)
        · have c41 : ¬ (y33).toInt = (y37).toInt := fun h9 => c41 (hq_eqi.mpr h9)
          refine lv_iconst (v := 0) hx hb dX13_alike_70 (by decide) ?_
          have hl42 : (0 : Int32).toInt = 0 := by decide
          refine lv_iadd hx hb dX13_alike_71 ?_
          refine lv_topi (fun y43 ey44 => ?_)
          obtain ⟨k45, hk46, b47, b48⟩ := hq_add (no) (0)
          rw [← ey44] at hk46 b47 b48
          have hk46 : (y43).toInt = (no).toInt + (0 : Int) + k45 * 4294967296 := hk46
          obtain rfl : k45 = 0 := by omega
          refine lv_istore_n (lv' := [(2, .int (y43)), (3, .int (i)), (0, .ref (mo)), (1, .int (k))]) hx hb dX13_alike_72 rfl hl (by decide) rfl (fun ls hl => ?_)
          obtain ⟨y49, ey50⟩ : ∃ y : Int32, y = i + (1) := ⟨_, rfl⟩
          obtain ⟨k51, hk52, b53, b54⟩ := hq_add (i) (1)
          rw [← ey50] at hk52 b53 b54
          have hk52 : (y49).toInt = (i).toInt + (1) + k51 * 4294967296 := hk52
          obtain rfl : k51 = 0 := by omega
          refine lv_iinc (v := y49) (lv' := [(3, .int (y49)), (2, .int (y43)), (0, .ref (mo)), (1, .int (k))]) hx hb dX13_alike_73 hl (k := 1) rfl (by rw [ey50]; rfl) (by decide) rfl (fun ls hl => ?_)
          refine lv_goto (tgt := 5) hx hb dX13_alike_76 (by decide) ?_
          exact ih5 _ (by omega) _ _ ls (y43) (y49) rfl hZ hP (by omega) (by omega) (by omega) (by rw [← hlk, sp_like_go hx9, if_neg (by omega), show (y49).toNatClampNeg - 60 = i.toNatClampNeg - 60 + 1 from (by have h8 := (hq_nn (z := y49) (by omega)).1; omega), show (y43).toInt = no.toInt by omega]) (lv_sub hl [0, 1, 2, 3] rfl)
        · have c41 : (y33).toInt = (y37).toInt := hq_eqi.mp c41
          refine lv_aload_n hx hb dX13_alike_36 rfl (lv_at hl 2 rfl) ?_
          refine hp_get (v := .ref (q + 12)) hx hb hts hown hZ hc0 fl_X13_35 rfl dX13_alike_37 ?_
          refine lv_iload_n hx hb dX13_alike_40 rfl (lv_at hl 0 rfl) ?_
          obtain ⟨rf55, hrf56⟩ : ∃ f : Nat → Int32, f = rh 12 := ⟨_, rfl⟩
          have ea57 : V (q + 12) = some (.inl (cs 1, 120, .inl (rf55))) := by rw [hrf56]; exact hp0 12 (by decide)
          have hra58 := hq_rg hP (hr_12 hR) ea57
          refine hp_iald hx hb hZ ea57 (hq_in (by omega) (by omega)) dX13_alike_41 ?_
          refine lv_topi (fun y59 ey60 => ?_)
          have b61 := hq_rng y59
          have b62 : (y59).toInt = (rh 12 (i).toNatClampNeg).toInt := by rw [ey60, hrf56]
          refine lv_aload_n hx hb dX13_alike_42 rfl (lv_at hl 2 rfl) ?_
          refine hp_get (v := .ref (q + 12)) hx hb hts hown hZ hc0 fl_X13_35 rfl dX13_alike_43 ?_
          refine lv_iload_n hx hb dX13_alike_46 rfl (lv_at hl 3 rfl) ?_
          refine hp_iald hx hb hZ ea57 (hq_in (by omega) (by omega)) dX13_alike_47 ?_
          refine lv_topi (fun y63 ey64 => ?_)
          have b65 := hq_rng y63
          have b66 : (y63).toInt = (rh 12 (k).toNatClampNeg).toInt := by rw [ey64, hrf56]
          refine lv_icmp_ne (tgt := 70) hx hb dX13_alike_48 (by decide) (fun c67 => ?_) (fun c67 => ?_)
          · have c67 : ¬ (y59).toInt = (y63).toInt := fun h9 => c67 (hq_eqi.mpr h9)
            refine lv_iconst (v := 0) hx hb dX13_alike_70 (by decide) ?_
            have hl68 : (0 : Int32).toInt = 0 := by decide
            refine lv_iadd hx hb dX13_alike_71 ?_
            refine lv_topi (fun y69 ey70 => ?_)
            obtain ⟨k71, hk72, b73, b74⟩ := hq_add (no) (0)
            rw [← ey70] at hk72 b73 b74
            have hk72 : (y69).toInt = (no).toInt + (0 : Int) + k71 * 4294967296 := hk72
            obtain rfl : k71 = 0 := by omega
            refine lv_istore_n (lv' := [(2, .int (y69)), (3, .int (i)), (0, .ref (mo)), (1, .int (k))]) hx hb dX13_alike_72 rfl hl (by decide) rfl (fun ls hl => ?_)
            obtain ⟨y75, ey76⟩ : ∃ y : Int32, y = i + (1) := ⟨_, rfl⟩
            obtain ⟨k77, hk78, b79, b80⟩ := hq_add (i) (1)
            rw [← ey76] at hk78 b79 b80
            have hk78 : (y75).toInt = (i).toInt + (1) + k77 * 4294967296 := hk78
            obtain rfl : k77 = 0 := by omega
            refine lv_iinc (v := y75) (lv' := [(3, .int (y75)), (2, .int (y69)), (0, .ref (mo)), (1, .int (k))]) hx hb dX13_alike_73 hl (k := 1) rfl (by rw [ey76]; rfl) (by decide) rfl (fun ls hl => ?_)
            refine lv_goto (tgt := 5) hx hb dX13_alike_76 (by decide) ?_
            exact ih5 _ (by omega) _ _ ls (y69) (y75) rfl hZ hP (by omega) (by omega) (by omega) (by rw [← hlk, sp_like_go hx9, if_neg (by omega), show (y75).toNatClampNeg - 60 = i.toNatClampNeg - 60 + 1 from (by have h8 := (hq_nn (z := y75) (by omega)).1; omega), show (y69).toInt = no.toInt by omega]) (lv_sub hl [0, 1, 2, 3] rfl)
          · have c67 : (y59).toInt = (y63).toInt := hq_eqi.mp c67
            refine lv_aload_n hx hb dX13_alike_51 rfl (lv_at hl 2 rfl) ?_
            refine hp_get (v := .ref (q + 13)) hx hb hts hown hZ hc0 fl_X13_38 rfl dX13_alike_52 ?_
            refine lv_iload_n hx hb dX13_alike_55 rfl (lv_at hl 0 rfl) ?_
            obtain ⟨rf81, hrf82⟩ : ∃ f : Nat → Int32, f = rh 13 := ⟨_, rfl⟩
            have ea83 : V (q + 13) = some (.inl (cs 1, 120, .inl (rf81))) := by rw [hrf82]; exact hp0 13 (by decide)
            have hra84 := hq_rg hP (hr_13 hR) ea83
            refine hp_iald hx hb hZ ea83 (hq_in (by omega) (by omega)) dX13_alike_56 ?_
            refine lv_topi (fun y85 ey86 => ?_)
            have b87 := hq_rng y85
            have b88 : (y85).toInt = (rh 13 (i).toNatClampNeg).toInt := by rw [ey86, hrf82]
            refine lv_aload_n hx hb dX13_alike_57 rfl (lv_at hl 2 rfl) ?_
            refine hp_get (v := .ref (q + 13)) hx hb hts hown hZ hc0 fl_X13_38 rfl dX13_alike_58 ?_
            refine lv_iload_n hx hb dX13_alike_61 rfl (lv_at hl 3 rfl) ?_
            refine hp_iald hx hb hZ ea83 (hq_in (by omega) (by omega)) dX13_alike_62 ?_
            refine lv_topi (fun y89 ey90 => ?_)
            have b91 := hq_rng y89
            have b92 : (y89).toInt = (rh 13 (k).toNatClampNeg).toInt := by rw [ey90, hrf82]
            refine lv_icmp_ne (tgt := 70) hx hb dX13_alike_63 (by decide) (fun c93 => ?_) (fun c93 => ?_)
            · have c93 : ¬ (y85).toInt = (y89).toInt := fun h9 => c93 (hq_eqi.mpr h9)
              refine lv_iconst (v := 0) hx hb dX13_alike_70 (by decide) ?_
              have hl94 : (0 : Int32).toInt = 0 := by decide
              refine lv_iadd hx hb dX13_alike_71 ?_
              refine lv_topi (fun y95 ey96 => ?_)
              obtain ⟨k97, hk98, b99, b100⟩ := hq_add (no) (0)
              rw [← ey96] at hk98 b99 b100
              have hk98 : (y95).toInt = (no).toInt + (0 : Int) + k97 * 4294967296 := hk98
              obtain rfl : k97 = 0 := by omega
              refine lv_istore_n (lv' := [(2, .int (y95)), (3, .int (i)), (0, .ref (mo)), (1, .int (k))]) hx hb dX13_alike_72 rfl hl (by decide) rfl (fun ls hl => ?_)
              obtain ⟨y101, ey102⟩ : ∃ y : Int32, y = i + (1) := ⟨_, rfl⟩
              obtain ⟨k103, hk104, b105, b106⟩ := hq_add (i) (1)
              rw [← ey102] at hk104 b105 b106
              have hk104 : (y101).toInt = (i).toInt + (1) + k103 * 4294967296 := hk104
              obtain rfl : k103 = 0 := by omega
              refine lv_iinc (v := y101) (lv' := [(3, .int (y101)), (2, .int (y95)), (0, .ref (mo)), (1, .int (k))]) hx hb dX13_alike_73 hl (k := 1) rfl (by rw [ey102]; rfl) (by decide) rfl (fun ls hl => ?_)
              refine lv_goto (tgt := 5) hx hb dX13_alike_76 (by decide) ?_
              exact ih5 _ (by omega) _ _ ls (y95) (y101) rfl hZ hP (by omega) (by omega) (by omega) (by rw [← hlk, sp_like_go hx9, if_neg (by omega), show (y101).toNatClampNeg - 60 = i.toNatClampNeg - 60 + 1 from (by have h8 := (hq_nn (z := y101) (by omega)).1; omega), show (y95).toInt = no.toInt by omega]) (lv_sub hl [0, 1, 2, 3] rfl)
            · have c93 : (y85).toInt = (y89).toInt := hq_eqi.mp c93
              refine lv_iconst (v := 1) hx hb dX13_alike_66 (by decide) ?_
              refine lv_goto (tgt := 71) hx hb dX13_alike_67 (by decide) ?_
              have hl107 : (1 : Int32).toInt = 1 := by decide
              refine lv_iadd hx hb dX13_alike_71 ?_
              refine lv_topi (fun y108 ey109 => ?_)
              obtain ⟨k110, hk111, b112, b113⟩ := hq_add (no) (1)
              rw [← ey109] at hk111 b112 b113
              have hk111 : (y108).toInt = (no).toInt + (1 : Int) + k110 * 4294967296 := hk111
              obtain rfl : k110 = 0 := by omega
              refine lv_istore_n (lv' := [(2, .int (y108)), (3, .int (i)), (0, .ref (mo)), (1, .int (k))]) hx hb dX13_alike_72 rfl hl (by decide) rfl (fun ls hl => ?_)
              obtain ⟨y114, ey115⟩ : ∃ y : Int32, y = i + (1) := ⟨_, rfl⟩
              obtain ⟨k116, hk117, b118, b119⟩ := hq_add (i) (1)
              rw [← ey115] at hk117 b118 b119
              have hk117 : (y114).toInt = (i).toInt + (1) + k116 * 4294967296 := hk117
              obtain rfl : k116 = 0 := by omega
              refine lv_iinc (v := y114) (lv' := [(3, .int (y114)), (2, .int (y108)), (0, .ref (mo)), (1, .int (k))]) hx hb dX13_alike_73 hl (k := 1) rfl (by rw [ey115]; rfl) (by decide) rfl (fun ls hl => ?_)
              refine lv_goto (tgt := 5) hx hb dX13_alike_76 (by decide) ?_
              exact ih5 _ (by omega) _ _ ls (y108) (y114) rfl hZ hP (by omega) (by omega) (by omega) (by rw [← hlk, sp_like_go hx9, if_pos (by omega), show (y114).toNatClampNeg - 60 = i.toNatClampNeg - 60 + 1 from (by have h8 := (hq_nn (z := y114) (by omega)).1; omega), show (y108).toInt = no.toInt + 1 by omega]) (lv_sub hl [0, 1, 2, 3] rfl)

set_option maxHeartbeats 4000000 in
set_option maxRecDepth 100000 in
theorem y_takeLetters5 (l : Launch) (D : va_G) (cs : Nat → ClassId) (B : Nat) (G : hq_G) (V : hp_V) (n : Nat) (hI : hq_I cs G V) (q : Nat) (mo : Nat) (w : sp_W) (rh : hm_Rh) (j : Nat) (m_tp : Int32) (m_sz : Int32) (m_fr : Int32) (m_bh : Int32) (m_hd : Int32) (m_ft : Int32) (m_fa : Int32) (m_le : Int32) (m_fo : Int32) (m_as : Int32) (m_fd : Int32) (m_bc : Int32) (m_bg : Int32) (m_bs : Int32) (m_be : Int32) (m_b0 : Int32) (m_b1 : Int32) (m_cm : Int32) (m_hc : Int32) (k : Int32) (hc0 : V (mo) = some (.inr (13, hm_o q (m_tp) (m_sz) (m_fr) (m_bh) (m_hd) (m_ft) (m_fa) (m_le) (m_fo) (m_as) (m_fd) (m_bc) (m_bg) (m_bs) (m_be) (m_b0) (m_b1) (m_cm) (m_hc)))) (hp0 : hm_TP cs V q w) (hp1 : hm_AR cs V q rh) (hR : hq_RT G q) (hmo : G mo = some (24, 0, 0, 0)) (hmq : mo < q) (hsz : m_sz.toInt = w.2) (hA : hm_A w j m_fr m_bh m_hd) (hk19 : sp_k w j = 19) (hk : 60 ≤ k.toInt ∧ k.toInt < 120) : hp_M l yX13_takeLetters cX13_takeLetters 5 (some .int) ({ frames := 3, cells := 0, slots := 0, locals := 64 }) D cs B V n [.ref (mo), .ref (q + 5), .int (k)] (hp_QI D cs B (fun r V' n' => n = n' ∧ hq_P cs G (fun _ => true) V V' ∧ (∀ x, x ≠ mo → (x < q ∨ q + 19 ≤ x) → V' x = V x) ∧ (∃ m_fr1 : Int32, ∃ m_bh1 : Int32, ∃ m_hd1 : Int32, ∃ rh1 : hm_Rh, V' (mo) = some (.inr (13, hm_o q (m_tp) (m_sz) (m_fr1) (m_bh1) (m_hd1) (m_ft) (m_fa) (m_le) (m_fo) (m_as) (m_fd) (m_bc) (m_bg) (m_bs) (m_be) (m_b0) (m_b1) (m_cm) (m_hc))) ∧ (r.toInt = sp_sz w j) ∧ (hm_A w (j + 1) m_fr1 m_bh1 m_hd1) ∧ (hm_AR cs V' q rh1) ∧ (∀ a i : Nat, ¬ (a = 5 ∧ 8 * (k).toNatClampNeg ≤ i ∧ i < 8 * (k).toNatClampNeg + 8) → rh1 a i = rh a i) ∧ (∀ x : Nat, (x : Int) < sp_sz w j → (rh1 5 (8 * (k).toNatClampNeg + x)).toInt = w.1 (sp_s w j + 1 + x)) ∧ (hm_H rh rh1)))) 0 0 := by
  refine hp_walk (R0 := RX13) (by decide) rfl ?_ (Nat.le_of_ble_eq_true rfl)
  intro p e s m below meth c ls hx hb hr hts hown hlocks hin hml hZ hl
  have hP : hq_P cs G (fun _ => true) V V := hq_P.rf hI
  have hl : lv_has ls 5 [(0, .ref (mo)), (1, .ref (q + 5)), (2, .int (k))] := hl
  have hb_m_tp := hq_rng m_tp
  have hb_m_sz := hq_rng m_sz
  have hb_m_fr := hq_rng m_fr
  have hb_m_bh := hq_rng m_bh
  have hb_m_hd := hq_rng m_hd
  have hb_m_ft := hq_rng m_ft
  have hb_m_fa := hq_rng m_fa
  have hb_m_le := hq_rng m_le
  have hb_m_fo := hq_rng m_fo
  have hb_m_as := hq_rng m_as
  have hb_m_fd := hq_rng m_fd
  have hb_m_bc := hq_rng m_bc
  have hb_m_bg := hq_rng m_bg
  have hb_m_bs := hq_rng m_bs
  have hb_m_be := hq_rng m_be
  have hb_m_b0 := hq_rng m_b0
  have hb_m_b1 := hq_rng m_b1
  have hb_m_cm := hq_rng m_cm
  have hb_m_hc := hq_rng m_hc
  have hb_k := hq_rng k
  obtain ⟨b1, b2, b3, -⟩ := id hA
  obtain ⟨tg, htg, hok, hz3⟩ := id hp0
  have hz2 := hok.1
  have hH0 : hm_H rh rh := hm_H.rf
  have h3 := sp_h_3 (sp_k w j)
  have hlt := sp_tok_let (w := w) (j := j) hk19
  have hti := sp_tok_in (w := w) (j := j) hA.1 (by omega)
  have htk := sp_tok (w := w) (j := j) hA.1
  have hbe := hA.2.2.2 (by omega)
  have hszd : sp_sz w j = sp_e w j - sp_s w j - 2 := rfl
  refine lv_aload_n hx hb dX13_takeLetters_0 rfl (lv_at hl 0 rfl) ?_
  refine hp_get (v := .int (m_bh)) hx hb hts hown hZ hc0 fl_X13_76 rfl dX13_takeLetters_1 ?_
  refine lv_aload_n hx hb dX13_takeLetters_4 rfl (lv_at hl 0 rfl) ?_
  refine hp_get (v := .int (m_fr)) hx hb hts hown hZ hc0 fl_X13_60 rfl dX13_takeLetters_5 ?_
  refine lv_isub hx hb dX13_takeLetters_8 ?_
  refine lv_topi (fun y4 ey5 => ?_)
  obtain ⟨k6, hk7, b8, b9⟩ := hq_sub (m_bh) (m_fr)
  rw [← ey5] at hk7 b8 b9
  have hk7 : (y4).toInt = (m_bh).toInt - (m_fr).toInt + k6 * 4294967296 := hk7
  obtain rfl : k6 = 0 := by omega
  refine lv_iconst (v := 2) hx hb dX13_takeLetters_9 (by decide) ?_
  refine lv_isub hx hb dX13_takeLetters_10 ?_
  refine lv_topi (fun y10 ey11 => ?_)
  obtain ⟨k12, hk13, b14, b15⟩ := hq_sub (y4) (2)
  rw [← ey11] at hk13 b14 b15
  have hk13 : (y10).toInt = (y4).toInt - (2 : Int) + k12 * 4294967296 := hk13
  obtain rfl : k12 = 0 := by omega
  refine lv_istore_n (lv' := [(3, .int (y10)), (0, .ref (mo)), (1, .ref (q + 5)), (2, .int (k))]) hx hb dX13_takeLetters_11 rfl hl (by decide) rfl (fun ls hl => ?_)
  refine lv_iconst (v := 0) hx hb dX13_takeLetters_12 (by decide) ?_
  refine lv_istore (lv' := [(4, .int (0)), (3, .int (y10)), (0, .ref (mo)), (1, .ref (q + 5)), (2, .int (k))]) hx hb dX13_takeLetters_13 hl (by decide) rfl (fun ls hl => ?_)
  have hl19 : (0 : Int32).toInt = 0 := by decide
  suffices lp15 : ∀ (k9 : Nat) (V9 : hp_V) (H9 : Heap) (locs9 : List Loc) (ls : Array Slot) (i : Int32) (rh9 : hm_Rh), (100 - i.toInt).toNat = k9 → hp_Z D cs B s V9 H9 n locs9 → hq_P cs G (fun _ => true) V V9 → V9 (mo) = some (.inr (13, hm_o q (m_tp) (m_sz) (m_fr) (m_bh) (m_hd) (m_ft) (m_fa) (m_le) (m_fo) (m_as) (m_fd) (m_bc) (m_bg) (m_bs) (m_be) (m_b0) (m_b1) (m_cm) (m_hc))) → (∀ x, x ≠ mo → (x < q ∨ q + 19 ≤ x) → V9 x = V x) → hm_TP cs V9 q w → hm_AR cs V9 q rh9 → 0 ≤ i.toInt → i.toInt ≤ sp_sz w j → (∀ a i9 : Nat, ¬ (a = 5 ∧ 8 * (k).toNatClampNeg ≤ i9 ∧ i9 < 8 * (k).toNatClampNeg + 8) → rh9 a i9 = rh a i9) → (∀ x : Nat, (x : Int) < i.toInt → (rh9 5 (8 * (k).toNatClampNeg + x)).toInt = w.1 (sp_s w j + 1 + x)) → (hm_H rh rh9) → lv_has ls 5 [(4, .int (i)), (3, .int (y10)), (0, .ref (mo)), (1, .ref (q + 5)), (2, .int (k))] → W p l e ({ frames := 3, cells := 0, slots := 0, locals := 64 }) s m ([.ref (mo), .ref (q + 5), .int (k)] : List Value).toArray below meth c H9 locs9 0 0 (MQ below (hp_QI D cs B (fun r V' n' => n = n' ∧ hq_P cs G (fun _ => true) V V' ∧ (∀ x, x ≠ mo → (x < q ∨ q + 19 ≤ x) → V' x = V x) ∧ (∃ m_fr1 : Int32, ∃ m_bh1 : Int32, ∃ m_hd1 : Int32, ∃ rh1 : hm_Rh, V' (mo) = some (.inr (13, hm_o q (m_tp) (m_sz) (m_fr1) (m_bh1) (m_hd1) (m_ft) (m_fa) (m_le) (m_fo) (m_as) (m_fd) (m_bc) (m_bg) (m_bs) (m_be) (m_b0) (m_b1) (m_cm) (m_hc))) ∧ (r.toInt = sp_sz w j) ∧ (hm_A w (j + 1) m_fr1 m_bh1 m_hd1) ∧ (hm_AR cs V' q rh1) ∧ (∀ a i : Nat, ¬ (a = 5 ∧ 8 * (k).toNatClampNeg ≤ i ∧ i < 8 * (k).toNatClampNeg + 8) → rh1 a i = rh a i) ∧ (∀ x : Nat, (x : Int) < sp_sz w j → (rh1 5 (8 * (k).toNatClampNeg + x)).toInt = w.1 (sp_s w j + 1 + x)) ∧ (hm_H rh rh1)))) ([.ref (mo), .ref (q + 5), .int (k)] : List Value).toArray s 0 0 (hp_F B)) (F0 m 15 ls []) from lp15 _ _ _ _ ls (0) (rh) rfl hZ hP hc0 (fun x8 hne0 hne1 => rfl) hp0 hp1 (by omega) (by omega) (fun a9 i9 h9 => rfl) (fun x9 h9 => by omega) (hH0) (lv_sub hl [0, 1, 2, 3, 4] rfl)
  intro k9
  induction k9 using Nat.strongRecOn with
  | _ k9 ih15 =>
    intro V9 H9 locs9 ls i rh9  hk15 hZ hP ho16 fr15 pk17 pk18 hv20 hv21 hfr9 hco9 hH9 hl
    have hb_i := hq_rng i
    refine lv_iload hx hb dX13_takeLetters_15 (lv_at hl 0 rfl) ?_
    refine lv_iload_n hx hb dX13_takeLetters_17 rfl (lv_at hl 1 rfl) ?_
    refine lv_icmp_ge (tgt := 50) hx hb dX13_takeLetters_18 (by decide) (fun c22 => ?_) (fun c22 => ?_)
    · have c22 : (y10).toInt ≤ (i).toInt := hq_lei.mp c22
      refine lv_aload_n hx hb dX13_takeLetters_50 rfl (lv_at hl 2 rfl) ?_
      refine hp_callv (hp_runV (As := []) (rest := []) hx hb hml hown hts (y_next l D cs B G V9 n hP.1 (q) (mo) (w) (j) (m_tp) (m_sz) (m_fr) (m_bh) (m_hd) (m_ft) (m_fa) (m_le) (m_fo) (m_as) (m_fd) (m_bc) (m_bg) (m_bs) (m_be) (m_b0) (m_b1) (m_cm) (m_hc)  ho16 pk17 hR hmo hmq (by omega) hA (by omega)) hZ ho16 cv_X13_111 rfl rfl ⟨Nat.le_of_ble_eq_true rfl, Nat.le_of_ble_eq_true rfl⟩ rfl hl.1 rfl (Nat.le_of_ble_eq_true rfl) dX13_takeLetters_51 ⟨(Nat.le_of_ble_eq_true rfl), (Nat.le_of_ble_eq_true rfl)⟩) hZ (fun V23 n24 _ _ hw25 hZ => ?_)
      obtain ⟨rfl, hq27, fr28, z29, z30, z31, ho32, hp33, hp34⟩ := hw25
      have b35 := hq_rng z29
      have b36 := hq_rng z30
      have b37 := hq_rng z31
      have hP := hP.trans hq27 (fun _ h => Bool.noConfusion h)
      obtain ⟨b38, b39, b40, -⟩ := id hp33
      refine lv_iload_n hx hb dX13_takeLetters_54 rfl (lv_at hl 1 rfl) ?_
      have pk41 := pk18.keep (fun x7 (hx7 : q ≤ x7 ∧ x7 < q + 19) => fr28 x7 (by omega))
      exact hp_iret hx hb hr hlocks hZ ⟨rfl, hP, (fun x8 hne0 hne1 => (fr28 x8 hne0).trans (fr15 x8 hne0 hne1)), z29, z30, z31, rh9, ho32, by omega, hp33, pk41, hfr9, fun x9 h9 => hco9 x9 (by omega), hH9⟩ dX13_takeLetters_55
    · have c22 : ¬ (y10).toInt ≤ (i).toInt := fun h9 => c22 (hq_lei.mpr h9)
      refine lv_aload_n hx hb dX13_takeLetters_21 rfl (lv_at hl 3 rfl) ?_
      refine lv_bipush (v := 8) hx hb dX13_takeLetters_22 (by decide) ?_
      refine lv_iload_n hx hb dX13_takeLetters_24 rfl (lv_at hl 4 rfl) ?_
      refine lv_imul hx hb dX13_takeLetters_25 ?_
      refine lv_topi (fun y42 ey43 => ?_)
      obtain ⟨k44, hk45, b46, b47⟩ := hq_mul (8) (k)
      rw [← ey43] at hk45 b46 b47
      have hk45 : (y42).toInt = (8 : Int) * (k).toInt + k44 * 4294967296 := hk45
      obtain rfl : k44 = 0 := by omega
      refine lv_iload hx hb dX13_takeLetters_26 (lv_at hl 0 rfl) ?_
      refine lv_iadd hx hb dX13_takeLetters_28 ?_
      refine lv_topi (fun y48 ey49 => ?_)
      obtain ⟨k50, hk51, b52, b53⟩ := hq_add (y42) (i)
      rw [← ey49] at hk51 b52 b53
      have hk51 : (y48).toInt = (y42).toInt + (i).toInt + k50 * 4294967296 := hk51
      obtain rfl : k50 = 0 := by omega
      refine lv_aload_n hx hb dX13_takeLetters_29 rfl (lv_at hl 2 rfl) ?_
      refine hp_get (v := .ref (q + 20)) hx hb hts hown hZ ho16 fl_X13_73 rfl dX13_takeLetters_30 ?_
      refine lv_aload_n hx hb dX13_takeLetters_33 rfl (lv_at hl 2 rfl) ?_
      refine hp_get (v := .int (m_fr)) hx hb hts hown hZ ho16 fl_X13_60 rfl dX13_takeLetters_34 ?_
      refine lv_iconst (v := 1) hx hb dX13_takeLetters_37 (by decide) ?_
      refine lv_iadd hx hb dX13_takeLetters_38 ?_
      refine lv_topi (fun y54 ey55 => ?_)
      obtain ⟨k56, hk57, b58, b59⟩ := hq_add (m_fr) (1)
      rw [← ey55] at hk57 b58 b59
      have hk57 : (y54).toInt = (m_fr).toInt + (1 : Int) + k56 * 4294967296 := hk57
      obtain rfl : k56 = 0 := by omega
      refine lv_iload hx hb dX13_takeLetters_39 (lv_at hl 0 rfl) ?_
      refine lv_iadd hx hb dX13_takeLetters_41 ?_
      refine lv_topi (fun y60 ey61 => ?_)
      obtain ⟨k62, hk63, b64, b65⟩ := hq_add (y54) (i)
      rw [← ey61] at hk63 b64 b65
      have hk63 : (y60).toInt = (y54).toInt + (i).toInt + k62 * 4294967296 := hk63
      obtain rfl : k62 = 0 := by omega
      have fx66 : V9 (q + 20) = some (.inl (cs 0, 4000, .inl (tg))) := (fr15 (q + 20) (hq_tne (hr_20 hR) hmo (by simp)) (by omega)).trans (htg)
      refine hp_bald hx hb hZ fx66 (hq_in (by omega) (by omega)) dX13_takeLetters_42 ?_
      refine lv_topi (fun y67 ey68 => ?_)
      have b69 := hq_rng y67
      have hgw9 := hx_gw hz3 (i := y60) (by omega) (by omega)
      rw [← ey68] at hgw9
      have hrg9 := hok.2 (y60).toInt (by omega) (by omega)
      obtain ⟨rf70, hrf71⟩ : ∃ f : Nat → Int32, f = rh9 5 := ⟨_, rfl⟩
      have ea72 : V9 (q + 5) = some (.inl (cs 0, 960, .inl (rf70))) := by rw [hrf71]; exact pk18 5 (by decide)
      refine hp_bast hx hb hZ ea72 (hq_in (by omega) (by omega)) dX13_takeLetters_43 (fun V74 _ _ e75 o76 hZ => ?_)
      have e75 : V74 (q + 5) = some (.inl (cs 0, 960, .inl (upd (rf70) ((y48 : Int32).toNatClampNeg) ((y67 : Int32).toInt8.toInt32)))) := e75
      have hP := hP.put (hr_5 hR) e75 o76 (hq_c20 (by omega)) rfl
      obtain ⟨g77, ge78⟩ : ∃ g9 : Nat → Int32, g9 = upd (rf70) ((y48 : Int32).toNatClampNeg) ((y67 : Int32).toInt8.toInt32) := ⟨_, rfl⟩
      have fx79 : V74 (q + 5) = some (.inl (cs 0, 960, .inl (g77))) := by rw [ge78]; exact e75
      have hf80 := hq_rg20 hP.1 (hr_5 hR) fx79
      obtain ⟨rh81, hrh82⟩ : ∃ r9 : hm_Rh, r9 = hm_u2 rh9 5 (y48 : Int32).toNatClampNeg ((y67 : Int32).toInt8.toInt32) := ⟨_, rfl⟩
      have pk83 : hm_AR cs V74 q rh81 := by rw [hrh82]; exact pk18.put (a := 5) (by decide) (by rw [ge78, hrf71]) fx79 o76
      have hH84 : hm_H rh rh81 := by rw [hrh82]; exact hH9.put (show 480 ≤ (y48 : Int32).toNatClampNeg by have h8 := (hq_nn (z := y48) (by omega)).1; omega)
      obtain ⟨y85, ey86⟩ : ∃ y : Int32, y = i + (1) := ⟨_, rfl⟩
      obtain ⟨k87, hk88, b89, b90⟩ := hq_add (i) (1)
      rw [← ey86] at hk88 b89 b90
      have hk88 : (y85).toInt = (i).toInt + (1) + k87 * 4294967296 := hk88
      obtain rfl : k87 = 0 := by omega
      refine lv_iinc (v := y85) (lv' := [(4, .int (y85)), (3, .int (y10)), (0, .ref (mo)), (1, .ref (q + 5)), (2, .int (k))]) hx hb dX13_takeLetters_44 hl (k := 0) rfl (by rw [ey86]; rfl) (by decide) rfl (fun ls hl => ?_)
      refine lv_goto (tgt := 15) hx hb dX13_takeLetters_47 (by decide) ?_
      have fx91 : V74 (mo) = some (.inr (13, hm_o q (m_tp) (m_sz) (m_fr) (m_bh) (m_hd) (m_ft) (m_fa) (m_le) (m_fo) (m_as) (m_fd) (m_bc) (m_bg) (m_bs) (m_be) (m_b0) (m_b1) (m_cm) (m_hc))) := (o76 (mo) (hq_tne hmo (hr_5 hR) (by simp))).trans (ho16)
      have pk92 := pk17.keep (o76 (q + 20) (hq_tne (hr_20 hR) (hr_5 hR) (by simp)))
      exact ih15 _ (by omega) _ _ _ ls (y85) (rh81) rfl hZ hP fx91 (fun x8 hne0 hne1 => (o76 x8 (by omega)).trans (fr15 x8 hne0 hne1)) pk92 pk83 (by omega) (by omega) (fun a9 i9 h9 => by rw [hrh82]; by_cases c9 : a9 = 5 ∧ i9 = (y48 : Int32).toNatClampNeg; (· have h8 := (hq_nn (z := y48) (by omega)).1; have h7 := (hq_nn (z := k) (by omega)).1; exact absurd ⟨c9.1, by omega, by omega⟩ h9); (· by_cases c8 : a9 = 5; (· rw [hm_u2i (fun e9 => c9 ⟨c8, e9⟩)]; exact hfr9 a9 i9 h9); (· rw [hm_u2a c8]; exact hfr9 a9 i9 h9))) (fun x9 h9 => by rw [hrh82]; have h8 := (hq_nn (z := y48) (by omega)).1; have h7 := (hq_nn (z := k) (by omega)).1; by_cases c9 : (x9 : Int) < i.toInt; (· rw [hm_u2i (by omega)]; exact hco9 x9 c9); (· rw [show 8 * (k).toNatClampNeg + x9 = (y48 : Int32).toNatClampNeg by omega, hm_u2e, hx_n8 (by omega), hgw9]; exact congrArg w.1 (by omega))) (hH84) (lv_sub hl [0, 1, 2, 3, 4] rfl)

set_option maxHeartbeats 4000000 in
set_option maxRecDepth 100000 in
theorem y_takeLetters6 (l : Launch) (D : va_G) (cs : Nat → ClassId) (B : Nat) (G : hq_G) (V : hp_V) (n : Nat) (hI : hq_I cs G V) (q : Nat) (mo : Nat) (w : sp_W) (rh : hm_Rh) (j : Nat) (m_tp : Int32) (m_sz : Int32) (m_fr : Int32) (m_bh : Int32) (m_hd : Int32) (m_ft : Int32) (m_fa : Int32) (m_le : Int32) (m_fo : Int32) (m_as : Int32) (m_fd : Int32) (m_bc : Int32) (m_bg : Int32) (m_bs : Int32) (m_be : Int32) (m_b0 : Int32) (m_b1 : Int32) (m_cm : Int32) (m_hc : Int32) (k : Int32) (hc0 : V (mo) = some (.inr (13, hm_o q (m_tp) (m_sz) (m_fr) (m_bh) (m_hd) (m_ft) (m_fa) (m_le) (m_fo) (m_as) (m_fd) (m_bc) (m_bg) (m_bs) (m_be) (m_b0) (m_b1) (m_cm) (m_hc)))) (hp0 : hm_TP cs V q w) (hp1 : hm_AR cs V q rh) (hR : hq_RT G q) (hmo : G mo = some (24, 0, 0, 0)) (hmq : mo < q) (hsz : m_sz.toInt = w.2) (hA : hm_A w j m_fr m_bh m_hd) (hk19 : sp_k w j = 19) (hk : 60 ≤ k.toInt ∧ k.toInt < 120) : hp_M l yX13_takeLetters cX13_takeLetters 5 (some .int) ({ frames := 3, cells := 0, slots := 0, locals := 64 }) D cs B V n [.ref (mo), .ref (q + 6), .int (k)] (hp_QI D cs B (fun r V' n' => n = n' ∧ hq_P cs G (fun _ => true) V V' ∧ (∀ x, x ≠ mo → (x < q ∨ q + 19 ≤ x) → V' x = V x) ∧ (∃ m_fr1 : Int32, ∃ m_bh1 : Int32, ∃ m_hd1 : Int32, ∃ rh1 : hm_Rh, V' (mo) = some (.inr (13, hm_o q (m_tp) (m_sz) (m_fr1) (m_bh1) (m_hd1) (m_ft) (m_fa) (m_le) (m_fo) (m_as) (m_fd) (m_bc) (m_bg) (m_bs) (m_be) (m_b0) (m_b1) (m_cm) (m_hc))) ∧ (r.toInt = sp_sz w j) ∧ (hm_A w (j + 1) m_fr1 m_bh1 m_hd1) ∧ (hm_AR cs V' q rh1) ∧ (∀ a i : Nat, ¬ (a = 6 ∧ 8 * (k).toNatClampNeg ≤ i ∧ i < 8 * (k).toNatClampNeg + 8) → rh1 a i = rh a i) ∧ (∀ x : Nat, (x : Int) < sp_sz w j → (rh1 6 (8 * (k).toNatClampNeg + x)).toInt = w.1 (sp_s w j + 1 + x)) ∧ (hm_H rh rh1)))) 0 0 := by
  refine hp_walk (R0 := RX13) (by decide) rfl ?_ (Nat.le_of_ble_eq_true rfl)
  intro p e s m below meth c ls hx hb hr hts hown hlocks hin hml hZ hl
  have hP : hq_P cs G (fun _ => true) V V := hq_P.rf hI
  have hl : lv_has ls 5 [(0, .ref (mo)), (1, .ref (q + 6)), (2, .int (k))] := hl
  have hb_m_tp := hq_rng m_tp
  have hb_m_sz := hq_rng m_sz
  have hb_m_fr := hq_rng m_fr
  have hb_m_bh := hq_rng m_bh
  have hb_m_hd := hq_rng m_hd
  have hb_m_ft := hq_rng m_ft
  have hb_m_fa := hq_rng m_fa
  have hb_m_le := hq_rng m_le
  have hb_m_fo := hq_rng m_fo
  have hb_m_as := hq_rng m_as
  have hb_m_fd := hq_rng m_fd
  have hb_m_bc := hq_rng m_bc
  have hb_m_bg := hq_rng m_bg
  have hb_m_bs := hq_rng m_bs
  have hb_m_be := hq_rng m_be
  have hb_m_b0 := hq_rng m_b0
  have hb_m_b1 := hq_rng m_b1
  have hb_m_cm := hq_rng m_cm
  have hb_m_hc := hq_rng m_hc
  have hb_k := hq_rng k
  obtain ⟨b1, b2, b3, -⟩ := id hA
  obtain ⟨tg, htg, hok, hz3⟩ := id hp0
  have hz2 := hok.1
  have hH0 : hm_H rh rh := hm_H.rf
  have h3 := sp_h_3 (sp_k w j)
  have hlt := sp_tok_let (w := w) (j := j) hk19
  have hti := sp_tok_in (w := w) (j := j) hA.1 (by omega)
  have htk := sp_tok (w := w) (j := j) hA.1
  have hbe := hA.2.2.2 (by omega)
  have hszd : sp_sz w j = sp_e w j - sp_s w j - 2 := rfl
  refine lv_aload_n hx hb dX13_takeLetters_0 rfl (lv_at hl 0 rfl) ?_
  refine hp_get (v := .int (m_bh)) hx hb hts hown hZ hc0 fl_X13_76 rfl dX13_takeLetters_1 ?_
  refine lv_aload_n hx hb dX13_takeLetters_4 rfl (lv_at hl 0 rfl) ?_
  refine hp_get (v := .int (m_fr)) hx hb hts hown hZ hc0 fl_X13_60 rfl dX13_takeLetters_5 ?_
  refine lv_isub hx hb dX13_takeLetters_8 ?_
  refine lv_topi (fun y4 ey5 => ?_)
  obtain ⟨k6, hk7, b8, b9⟩ := hq_sub (m_bh) (m_fr)
  rw [← ey5] at hk7 b8 b9
  have hk7 : (y4).toInt = (m_bh).toInt - (m_fr).toInt + k6 * 4294967296 := hk7
  obtain rfl : k6 = 0 := by omega
  refine lv_iconst (v := 2) hx hb dX13_takeLetters_9 (by decide) ?_
  refine lv_isub hx hb dX13_takeLetters_10 ?_
  refine lv_topi (fun y10 ey11 => ?_)
  obtain ⟨k12, hk13, b14, b15⟩ := hq_sub (y4) (2)
  rw [← ey11] at hk13 b14 b15
  have hk13 : (y10).toInt = (y4).toInt - (2 : Int) + k12 * 4294967296 := hk13
  obtain rfl : k12 = 0 := by omega
  refine lv_istore_n (lv' := [(3, .int (y10)), (0, .ref (mo)), (1, .ref (q + 6)), (2, .int (k))]) hx hb dX13_takeLetters_11 rfl hl (by decide) rfl (fun ls hl => ?_)
  refine lv_iconst (v := 0) hx hb dX13_takeLetters_12 (by decide) ?_
  refine lv_istore (lv' := [(4, .int (0)), (3, .int (y10)), (0, .ref (mo)), (1, .ref (q + 6)), (2, .int (k))]) hx hb dX13_takeLetters_13 hl (by decide) rfl (fun ls hl => ?_)
  have hl19 : (0 : Int32).toInt = 0 := by decide
  suffices lp15 : ∀ (k9 : Nat) (V9 : hp_V) (H9 : Heap) (locs9 : List Loc) (ls : Array Slot) (i : Int32) (rh9 : hm_Rh), (100 - i.toInt).toNat = k9 → hp_Z D cs B s V9 H9 n locs9 → hq_P cs G (fun _ => true) V V9 → V9 (mo) = some (.inr (13, hm_o q (m_tp) (m_sz) (m_fr) (m_bh) (m_hd) (m_ft) (m_fa) (m_le) (m_fo) (m_as) (m_fd) (m_bc) (m_bg) (m_bs) (m_be) (m_b0) (m_b1) (m_cm) (m_hc))) → (∀ x, x ≠ mo → (x < q ∨ q + 19 ≤ x) → V9 x = V x) → hm_TP cs V9 q w → hm_AR cs V9 q rh9 → 0 ≤ i.toInt → i.toInt ≤ sp_sz w j → (∀ a i9 : Nat, ¬ (a = 6 ∧ 8 * (k).toNatClampNeg ≤ i9 ∧ i9 < 8 * (k).toNatClampNeg + 8) → rh9 a i9 = rh a i9) → (∀ x : Nat, (x : Int) < i.toInt → (rh9 6 (8 * (k).toNatClampNeg + x)).toInt = w.1 (sp_s w j + 1 + x)) → (hm_H rh rh9) → lv_has ls 5 [(4, .int (i)), (3, .int (y10)), (0, .ref (mo)), (1, .ref (q + 6)), (2, .int (k))] → W p l e ({ frames := 3, cells := 0, slots := 0, locals := 64 }) s m ([.ref (mo), .ref (q + 6), .int (k)] : List Value).toArray below meth c H9 locs9 0 0 (MQ below (hp_QI D cs B (fun r V' n' => n = n' ∧ hq_P cs G (fun _ => true) V V' ∧ (∀ x, x ≠ mo → (x < q ∨ q + 19 ≤ x) → V' x = V x) ∧ (∃ m_fr1 : Int32, ∃ m_bh1 : Int32, ∃ m_hd1 : Int32, ∃ rh1 : hm_Rh, V' (mo) = some (.inr (13, hm_o q (m_tp) (m_sz) (m_fr1) (m_bh1) (m_hd1) (m_ft) (m_fa) (m_le) (m_fo) (m_as) (m_fd) (m_bc) (m_bg) (m_bs) (m_be) (m_b0) (m_b1) (m_cm) (m_hc))) ∧ (r.toInt = sp_sz w j) ∧ (hm_A w (j + 1) m_fr1 m_bh1 m_hd1) ∧ (hm_AR cs V' q rh1) ∧ (∀ a i : Nat, ¬ (a = 6 ∧ 8 * (k).toNatClampNeg ≤ i ∧ i < 8 * (k).toNatClampNeg + 8) → rh1 a i = rh a i) ∧ (∀ x : Nat, (x : Int) < sp_sz w j → (rh1 6 (8 * (k).toNatClampNeg + x)).toInt = w.1 (sp_s w j + 1 + x)) ∧ (hm_H rh rh1)))) ([.ref (mo), .ref (q + 6), .int (k)] : List Value).toArray s 0 0 (hp_F B)) (F0 m 15 ls []) from lp15 _ _ _ _ ls (0) (rh) rfl hZ hP hc0 (fun x8 hne0 hne1 => rfl) hp0 hp1 (by omega) (by omega) (fun a9 i9 h9 => rfl) (fun x9 h9 => by omega) (hH0) (lv_sub hl [0, 1, 2, 3, 4] rfl)
  intro k9
  induction k9 using Nat.strongRecOn with
  | _ k9 ih15 =>
    intro V9 H9 locs9 ls i rh9  hk15 hZ hP ho16 fr15 pk17 pk18 hv20 hv21 hfr9 hco9 hH9 hl
    have hb_i := hq_rng i
    refine lv_iload hx hb dX13_takeLetters_15 (lv_at hl 0 rfl) ?_
    refine lv_iload_n hx hb dX13_takeLetters_17 rfl (lv_at hl 1 rfl) ?_
    refine lv_icmp_ge (tgt := 50) hx hb dX13_takeLetters_18 (by decide) (fun c22 => ?_) (fun c22 => ?_)
    · have c22 : (y10).toInt ≤ (i).toInt := hq_lei.mp c22
      refine lv_aload_n hx hb dX13_takeLetters_50 rfl (lv_at hl 2 rfl) ?_
      refine hp_callv (hp_runV (As := []) (rest := []) hx hb hml hown hts (y_next l D cs B G V9 n hP.1 (q) (mo) (w) (j) (m_tp) (m_sz) (m_fr) (m_bh) (m_hd) (m_ft) (m_fa) (m_le) (m_fo) (m_as) (m_fd) (m_bc) (m_bg) (m_bs) (m_be) (m_b0) (m_b1) (m_cm) (m_hc)  ho16 pk17 hR hmo hmq (by omega) hA (by omega)) hZ ho16 cv_X13_111 rfl rfl ⟨Nat.le_of_ble_eq_true rfl, Nat.le_of_ble_eq_true rfl⟩ rfl hl.1 rfl (Nat.le_of_ble_eq_true rfl) dX13_takeLetters_51 ⟨(Nat.le_of_ble_eq_true rfl), (Nat.le_of_ble_eq_true rfl)⟩) hZ (fun V23 n24 _ _ hw25 hZ => ?_)
      obtain ⟨rfl, hq27, fr28, z29, z30, z31, ho32, hp33, hp34⟩ := hw25
      have b35 := hq_rng z29
      have b36 := hq_rng z30
      have b37 := hq_rng z31
      have hP := hP.trans hq27 (fun _ h => Bool.noConfusion h)
      obtain ⟨b38, b39, b40, -⟩ := id hp33
      refine lv_iload_n hx hb dX13_takeLetters_54 rfl (lv_at hl 1 rfl) ?_
      have pk41 := pk18.keep (fun x7 (hx7 : q ≤ x7 ∧ x7 < q + 19) => fr28 x7 (by omega))
      exact hp_iret hx hb hr hlocks hZ ⟨rfl, hP, (fun x8 hne0 hne1 => (fr28 x8 hne0).trans (fr15 x8 hne0 hne1)), z29, z30, z31, rh9, ho32, by omega, hp33, pk41, hfr9, fun x9 h9 => hco9 x9 (by omega), hH9⟩ dX13_takeLetters_55
    · have c22 : ¬ (y10).toInt ≤ (i).toInt := fun h9 => c22 (hq_lei.mpr h9)
      refine lv_aload_n hx hb dX13_takeLetters_21 rfl (lv_at hl 3 rfl) ?_
      refine lv_bipush (v := 8) hx hb dX13_takeLetters_22 (by decide) ?_
      refine lv_iload_n hx hb dX13_takeLetters_24 rfl (lv_at hl 4 rfl) ?_
      refine lv_imul hx hb dX13_takeLetters_25 ?_
      refine lv_topi (fun y42 ey43 => ?_)
      obtain ⟨k44, hk45, b46, b47⟩ := hq_mul (8) (k)
      rw [← ey43] at hk45 b46 b47
      have hk45 : (y42).toInt = (8 : Int) * (k).toInt + k44 * 4294967296 := hk45
      obtain rfl : k44 = 0 := by omega
      refine lv_iload hx hb dX13_takeLetters_26 (lv_at hl 0 rfl) ?_
      refine lv_iadd hx hb dX13_takeLetters_28 ?_
      refine lv_topi (fun y48 ey49 => ?_)
      obtain ⟨k50, hk51, b52, b53⟩ := hq_add (y42) (i)
      rw [← ey49] at hk51 b52 b53
      have hk51 : (y48).toInt = (y42).toInt + (i).toInt + k50 * 4294967296 := hk51
      obtain rfl : k50 = 0 := by omega
      refine lv_aload_n hx hb dX13_takeLetters_29 rfl (lv_at hl 2 rfl) ?_
      refine hp_get (v := .ref (q + 20)) hx hb hts hown hZ ho16 fl_X13_73 rfl dX13_takeLetters_30 ?_
      refine lv_aload_n hx hb dX13_takeLetters_33 rfl (lv_at hl 2 rfl) ?_
      refine hp_get (v := .int (m_fr)) hx hb hts hown hZ ho16 fl_X13_60 rfl dX13_takeLetters_34 ?_
      refine lv_iconst (v := 1) hx hb dX13_takeLetters_37 (by decide) ?_
      refine lv_iadd hx hb dX13_takeLetters_38 ?_
      refine lv_topi (fun y54 ey55 => ?_)
      obtain ⟨k56, hk57, b58, b59⟩ := hq_add (m_fr) (1)
      rw [← ey55] at hk57 b58 b59
      have hk57 : (y54).toInt = (m_fr).toInt + (1 : Int) + k56 * 4294967296 := hk57
      obtain rfl : k56 = 0 := by omega
      refine lv_iload hx hb dX13_takeLetters_39 (lv_at hl 0 rfl) ?_
      refine lv_iadd hx hb dX13_takeLetters_41 ?_
      refine lv_topi (fun y60 ey61 => ?_)
      obtain ⟨k62, hk63, b64, b65⟩ := hq_add (y54) (i)
      rw [← ey61] at hk63 b64 b65
      have hk63 : (y60).toInt = (y54).toInt + (i).toInt + k62 * 4294967296 := hk63
      obtain rfl : k62 = 0 := by omega
      have fx66 : V9 (q + 20) = some (.inl (cs 0, 4000, .inl (tg))) := (fr15 (q + 20) (hq_tne (hr_20 hR) hmo (by simp)) (by omega)).trans (htg)
      refine hp_bald hx hb hZ fx66 (hq_in (by omega) (by omega)) dX13_takeLetters_42 ?_
      refine lv_topi (fun y67 ey68 => ?_)
      have b69 := hq_rng y67
      have hgw9 := hx_gw hz3 (i := y60) (by omega) (by omega)
      rw [← ey68] at hgw9
      have hrg9 := hok.2 (y60).toInt (by omega) (by omega)
      obtain ⟨rf70, hrf71⟩ : ∃ f : Nat → Int32, f = rh9 6 := ⟨_, rfl⟩
      have ea72 : V9 (q + 6) = some (.inl (cs 0, 960, .inl (rf70))) := by rw [hrf71]; exact pk18 6 (by decide)
      refine hp_bast hx hb hZ ea72 (hq_in (by omega) (by omega)) dX13_takeLetters_43 (fun V74 _ _ e75 o76 hZ => ?_)
      have e75 : V74 (q + 6) = some (.inl (cs 0, 960, .inl (upd (rf70) ((y48 : Int32).toNatClampNeg) ((y67 : Int32).toInt8.toInt32)))) := e75
      have hP := hP.put (hr_6 hR) e75 o76 (hq_c20 (by omega)) rfl
      obtain ⟨g77, ge78⟩ : ∃ g9 : Nat → Int32, g9 = upd (rf70) ((y48 : Int32).toNatClampNeg) ((y67 : Int32).toInt8.toInt32) := ⟨_, rfl⟩
      have fx79 : V74 (q + 6) = some (.inl (cs 0, 960, .inl (g77))) := by rw [ge78]; exact e75
      have hf80 := hq_rg20 hP.1 (hr_6 hR) fx79
      obtain ⟨rh81, hrh82⟩ : ∃ r9 : hm_Rh, r9 = hm_u2 rh9 6 (y48 : Int32).toNatClampNeg ((y67 : Int32).toInt8.toInt32) := ⟨_, rfl⟩
      have pk83 : hm_AR cs V74 q rh81 := by rw [hrh82]; exact pk18.put (a := 6) (by decide) (by rw [ge78, hrf71]) fx79 o76
      have hH84 : hm_H rh rh81 := by rw [hrh82]; exact hH9.put (show 480 ≤ (y48 : Int32).toNatClampNeg by have h8 := (hq_nn (z := y48) (by omega)).1; omega)
      obtain ⟨y85, ey86⟩ : ∃ y : Int32, y = i + (1) := ⟨_, rfl⟩
      obtain ⟨k87, hk88, b89, b90⟩ := hq_add (i) (1)
      rw [← ey86] at hk88 b89 b90
      have hk88 : (y85).toInt = (i).toInt + (1) + k87 * 4294967296 := hk88
      obtain rfl : k87 = 0 := by omega
      refine lv_iinc (v := y85) (lv' := [(4, .int (y85)), (3, .int (y10)), (0, .ref (mo)), (1, .ref (q + 6)), (2, .int (k))]) hx hb dX13_takeLetters_44 hl (k := 0) rfl (by rw [ey86]; rfl) (by decide) rfl (fun ls hl => ?_)
      refine lv_goto (tgt := 15) hx hb dX13_takeLetters_47 (by decide) ?_
      have fx91 : V74 (mo) = some (.inr (13, hm_o q (m_tp) (m_sz) (m_fr) (m_bh) (m_hd) (m_ft) (m_fa) (m_le) (m_fo) (m_as) (m_fd) (m_bc) (m_bg) (m_bs) (m_be) (m_b0) (m_b1) (m_cm) (m_hc))) := (o76 (mo) (hq_tne hmo (hr_6 hR) (by simp))).trans (ho16)
      have pk92 := pk17.keep (o76 (q + 20) (hq_tne (hr_20 hR) (hr_6 hR) (by simp)))
      exact ih15 _ (by omega) _ _ _ ls (y85) (rh81) rfl hZ hP fx91 (fun x8 hne0 hne1 => (o76 x8 (by omega)).trans (fr15 x8 hne0 hne1)) pk92 pk83 (by omega) (by omega) (fun a9 i9 h9 => by rw [hrh82]; by_cases c9 : a9 = 6 ∧ i9 = (y48 : Int32).toNatClampNeg; (· have h8 := (hq_nn (z := y48) (by omega)).1; have h7 := (hq_nn (z := k) (by omega)).1; exact absurd ⟨c9.1, by omega, by omega⟩ h9); (· by_cases c8 : a9 = 6; (· rw [hm_u2i (fun e9 => c9 ⟨c8, e9⟩)]; exact hfr9 a9 i9 h9); (· rw [hm_u2a c8]; exact hfr9 a9 i9 h9))) (fun x9 h9 => by rw [hrh82]; have h8 := (hq_nn (z := y48) (by omega)).1; have h7 := (hq_nn (z := k) (by omega)).1; by_cases c9 : (x9 : Int) < i.toInt; (· rw [hm_u2i (by omega)]; exact hco9 x9 c9); (· rw [show 8 * (k).toNatClampNeg + x9 = (y48 : Int32).toNatClampNeg by omega, hm_u2e, hx_n8 (by omega), hgw9]; exact congrArg w.1 (by omega))) (hH84) (lv_sub hl [0, 1, 2, 3, 4] rfl)

set_option maxHeartbeats 4000000 in
set_option maxRecDepth 100000 in
theorem y_wrong (l : Launch) (D : va_G) (cs : Nat → ClassId) (B : Nat) (G : hq_G) (V : hp_V) (n : Nat) (hI : hq_I cs G V) (q : Nat) (mo : Nat) (m_tp : Int32) (m_sz : Int32) (m_fr : Int32) (m_bh : Int32) (m_hd : Int32) (m_ft : Int32) (m_fa : Int32) (m_le : Int32) (m_fo : Int32) (m_as : Int32) (m_fd : Int32) (m_bc : Int32) (m_bg : Int32) (m_bs : Int32) (m_be : Int32) (m_b0 : Int32) (m_b1 : Int32) (m_cm : Int32) (m_hc : Int32) (k : Int32) (hc0 : V (mo) = some (.inr (13, hm_o q (m_tp) (m_sz) (m_fr) (m_bh) (m_hd) (m_ft) (m_fa) (m_le) (m_fo) (m_as) (m_fd) (m_bc) (m_bg) (m_bs) (m_be) (m_b0) (m_b1) (m_cm) (m_hc)))) (hR : hq_RT G q) (hmo : G mo = some (24, 0, 0, 0)) (hmq : mo < q) : hp_M l yX13_wrong cX13_wrong 2 (some (.object "VerbSchoolModel$Stop")) ({ frames := 1, cells := 0, slots := 0, locals := 21 }) D cs B V n [.ref (mo), .int (k)] (hp_QR D cs B (fun r V' n' => n = n' ∧ hq_P cs G (fun _ => true) V V' ∧ (∀ x, x ≠ mo → V' x = V x) ∧ V' (mo) = some (.inr (13, hm_o q (m_tp) (m_sz) (m_fr) (m_bh) (m_hd) (k) (m_fr) (m_le) (m_fo) (m_as) (m_fd) (m_bc) (m_bg) (m_bs) (m_be) (m_b0) (m_b1) (m_cm) (m_hc))) ∧ (r = some (q + 19)))) 0 0 := by
  refine hp_walk (R0 := RX13) (by decide) rfl ?_ (Nat.le_of_ble_eq_true rfl)
  intro p e s m below meth c ls hx hb hr hts hown hlocks hin hml hZ hl
  have hP : hq_P cs G (fun _ => true) V V := hq_P.rf hI
  have hl : lv_has ls 2 [(0, .ref (mo)), (1, .int (k))] := hl
  have hb_m_tp := hq_rng m_tp
  have hb_m_sz := hq_rng m_sz
  have hb_m_fr := hq_rng m_fr
  have hb_m_bh := hq_rng m_bh
  have hb_m_hd := hq_rng m_hd
  have hb_m_ft := hq_rng m_ft
  have hb_m_fa := hq_rng m_fa
  have hb_m_le := hq_rng m_le
  have hb_m_fo := hq_rng m_fo
  have hb_m_as := hq_rng m_as
  have hb_m_fd := hq_rng m_fd
  have hb_m_bc := hq_rng m_bc
  have hb_m_bg := hq_rng m_bg
  have hb_m_bs := hq_rng m_bs
  have hb_m_be := hq_rng m_be
  have hb_m_b0 := hq_rng m_b0
  have hb_m_b1 := hq_rng m_b1
  have hb_m_cm := hq_rng m_cm
  have hb_m_hc := hq_rng m_hc
  have hb_k := hq_rng k
  refine lv_aload_n hx hb dX13_wrong_0 rfl (lv_at hl 0 rfl) ?_
  refine lv_iload_n hx hb dX13_wrong_1 rfl (lv_at hl 1 rfl) ?_
  refine hp_put hx hb hts hown hZ hc0 fp_X13_56 rfl rfl (Nat.le_of_ble_eq_true rfl) dX13_wrong_2 (fun V1 _ _ e2 o3 hZ => ?_)
  have e2 : V1 (mo) = some (.inr (13, hm_o q (m_tp) (m_sz) (m_fr) (m_bh) (m_hd) (k) (m_fa) (m_le) (m_fo) (m_as) (m_fd) (m_bc) (m_bg) (m_bs) (m_be) (m_b0) (m_b1) (m_cm) (m_hc))) := e2
  have hP := hP.put hmo e2 o3 (trivial) rfl
  refine lv_aload_n hx hb dX13_wrong_5 rfl (lv_at hl 0 rfl) ?_
  refine lv_aload_n hx hb dX13_wrong_6 rfl (lv_at hl 0 rfl) ?_
  refine hp_get (v := .int (m_fr)) hx hb hts hown hZ e2 fl_X13_60 rfl dX13_wrong_7 ?_
  refine hp_put hx hb hts hown hZ e2 fp_X13_63 rfl rfl (Nat.le_of_ble_eq_true rfl) dX13_wrong_10 (fun V4 _ _ e5 o6 hZ => ?_)
  have e5 : V4 (mo) = some (.inr (13, hm_o q (m_tp) (m_sz) (m_fr) (m_bh) (m_hd) (k) (m_fr) (m_le) (m_fo) (m_as) (m_fd) (m_bc) (m_bg) (m_bs) (m_be) (m_b0) (m_b1) (m_cm) (m_hc))) := e5
  have hP := hP.put hmo e5 o6 (trivial) rfl
  refine lv_aload_n hx hb dX13_wrong_13 rfl (lv_at hl 0 rfl) ?_
  refine hp_get (v := .ref (q + 19)) hx hb hts hown hZ e5 fl_X13_66 rfl dX13_wrong_14 ?_
  exact hp_aret (r := some (q + 19)) hx hb hr (Or.inl ⟨_, rfl⟩) hlocks hZ ⟨rfl, hP, (fun x8 hne0 => (o6 x8 hne0).trans (o3 x8 hne0)), e5, rfl⟩ dX13_wrong_17

theorem y_next (l : Launch) (D : va_G) (cs : Nat → ClassId) (B : Nat) (G : hq_G) (V : hp_V) (n : Nat) (hI : hq_I cs G V) (q mo : Nat) (w : sp_W) (j : Nat) (m_tp m_sz m_fr m_bh m_hd m_ft m_fa m_le m_fo m_as m_fd m_bc m_bg m_bs m_be m_b0 m_b1 m_cm m_hc : Int32) (hc0 : V mo = some (.inr (13, hm_o q (m_tp) (m_sz) (m_fr) (m_bh) (m_hd) (m_ft) (m_fa) (m_le) (m_fo) (m_as) (m_fd) (m_bc) (m_bg) (m_bs) (m_be) (m_b0) (m_b1) (m_cm) (m_hc)))) (hp0 : hm_TP cs V q w) (hR : hq_RT G q) (hmo : G mo = some (24, 0, 0, 0)) (hmq : mo < q) (hsz : m_sz.toInt = w.2) (hA : hm_A w j m_fr m_bh m_hd) (hk : sp_k w j ≤ 20) : hp_M l yX13_scan cX13_scan 3 none ({ frames := 2, cells := 0, slots := 0, locals := 42 }) D cs B V n [.ref (mo)] (hp_QV D cs B (fun V' n' => n = n' ∧ hq_P cs G (fun _ => true) V V' ∧ (∀ x, x ≠ mo → V' x = V x) ∧ (∃ m_fr1 : Int32, ∃ m_bh1 : Int32, ∃ m_hd1 : Int32, V' (mo) = some (.inr (13, hm_o q (m_tp) (m_sz) (m_fr1) (m_bh1) (m_hd1) (m_ft) (m_fa) (m_le) (m_fo) (m_as) (m_fd) (m_bc) (m_bg) (m_bs) (m_be) (m_b0) (m_b1) (m_cm) (m_hc))) ∧ (hm_A w (j + 1) m_fr1 m_bh1 m_hd1) ∧ (0 ≤ m_bh1.toInt ∧ m_bh1.toInt ≤ w.2 + 1)))) 0 0 :=
  y_scan l D cs B G V n hI q mo w (j + 1) m_tp m_sz m_fr m_bh m_hd m_ft m_fa m_le m_fo m_as m_fd m_bc m_bg m_bs m_be m_b0 m_b1 m_cm m_hc hc0 hp0 hR hmo hsz (hA.2.2.2 hk) (sp_tok_in hA.1 hk).2.2

set_option maxHeartbeats 4000000 in
set_option maxRecDepth 100000 in
theorem y_need (l : Launch) (D : va_G) (cs : Nat → ClassId) (B : Nat) (G : hq_G) (V : hp_V) (n : Nat) (hI : hq_I cs G V) (q : Nat) (mo : Nat) (w : sp_W) (j : Nat) (i : Nat) (kn : Nat) (d : Int) (m_tp : Int32) (m_sz : Int32) (m_fr : Int32) (m_bh : Int32) (m_hd : Int32) (m_ft : Int32) (m_fa : Int32) (m_le : Int32) (m_fo : Int32) (m_as : Int32) (m_fd : Int32) (m_bc : Int32) (m_bg : Int32) (m_bs : Int32) (m_be : Int32) (m_b0 : Int32) (m_b1 : Int32) (m_cm : Int32) (m_hc : Int32) (hc0 : V (mo) = some (.inr (13, hm_o q (m_tp) (m_sz) (m_fr) (m_bh) (m_hd) (m_ft) (m_fa) (m_le) (m_fo) (m_as) (m_fd) (m_bc) (m_bg) (m_bs) (m_be) (m_b0) (m_b1) (m_cm) (m_hc)))) (hp0 : hm_TP cs V q w) (hR : hq_RT G q) (hmo : G mo = some (24, 0, 0, 0)) (hmq : mo < q) (hsz : m_sz.toInt = w.2) (hA : hm_A w j m_fr m_bh m_hd) (h_i : i < 18) (h_i0 : 0 < i) (hkn : sp_kwi.getD i 0 = kn) (hk17 : kn < 17) (hd : d = (kn : Int)) : hq_M l yX13_need cX13_need 2 none ({ frames := 6, cells := 0, slots := 0, locals := 129 }) D cs B V n [.ref (mo), .ref (cs (100 + i))] (hq_QX D cs B (fun v V' n' => v = none ∧ n = n' ∧ hq_P cs G (fun _ => true) V V' ∧ (∀ x, x ≠ mo → V' x = V x) ∧ (∃ m_fr1 : Int32, ∃ m_bh1 : Int32, ∃ m_hd1 : Int32, V' (mo) = some (.inr (13, hm_o q (m_tp) (m_sz) (m_fr1) (m_bh1) (m_hd1) (m_ft) (m_fa) (m_le) (m_fo) (m_as) (m_fd) (m_bc) (m_bg) (m_bs) (m_be) (m_b0) (m_b1) (m_cm) (m_hc))) ∧ ((sp_take w d j).1 = 0 ∧ hm_A w (sp_take w d j).2 m_fr1 m_bh1 m_hd1))) (fun x V' n' => x = q + 19 ∧ n = n' ∧ hq_P cs G (fun _ => true) V V' ∧ (∀ x, x ≠ mo → V' x = V x) ∧ (∃ m_fr1 : Int32, ∃ m_bh1 : Int32, ∃ m_hd1 : Int32, ∃ m_ft1 : Int32, ∃ m_fa1 : Int32, V' (mo) = some (.inr (13, hm_o q (m_tp) (m_sz) (m_fr1) (m_bh1) (m_hd1) (m_ft1) (m_fa1) (m_le) (m_fo) (m_as) (m_fd) (m_bc) (m_bg) (m_bs) (m_be) (m_b0) (m_b1) (m_cm) (m_hc))) ∧ (hx_F w (sp_take w d j).1 (sp_take w d j).2 m_ft1 m_fa1)))) 0 0 := by
  refine hq_walk (R0 := RX13) (by decide) rfl ?_ (Nat.le_of_ble_eq_true rfl)
  intro p e s m below meth c ls hx hb hr hts hown hlocks hin hml hnx hZ hl
  have hP : hq_P cs G (fun _ => true) V V := hq_P.rf hI
  have hl : lv_has ls 2 [(0, .ref (mo)), (1, .ref (cs (100 + i)))] := hl
  have hb_m_tp := hq_rng m_tp
  have hb_m_sz := hq_rng m_sz
  have hb_m_fr := hq_rng m_fr
  have hb_m_bh := hq_rng m_bh
  have hb_m_hd := hq_rng m_hd
  have hb_m_ft := hq_rng m_ft
  have hb_m_fa := hq_rng m_fa
  have hb_m_le := hq_rng m_le
  have hb_m_fo := hq_rng m_fo
  have hb_m_as := hq_rng m_as
  have hb_m_fd := hq_rng m_fd
  have hb_m_bc := hq_rng m_bc
  have hb_m_bg := hq_rng m_bg
  have hb_m_bs := hq_rng m_bs
  have hb_m_be := hq_rng m_be
  have hb_m_b0 := hq_rng m_b0
  have hb_m_b1 := hq_rng m_b1
  have hb_m_cm := hq_rng m_cm
  have hb_m_hc := hq_rng m_hc
  obtain ⟨b1, b2, b3, -⟩ := id hA
  refine lv_aload_n hx hb dX13_need_0 rfl (lv_at hl 0 rfl) ?_
  refine lv_aload_n hx hb dX13_need_1 rfl (lv_at hl 1 rfl) ?_
  refine hp_calli (hp_runV (As := [.ref (cs (100 + i))]) (rest := []) hx hb hml hown hts (y_is l D cs B G V n hP.1 (q) (mo) (w) (j) (i) (kn) (m_tp) (m_sz) (m_fr) (m_bh) (m_hd) (m_ft) (m_fa) (m_le) (m_fo) (m_as) (m_fd) (m_bc) (m_bg) (m_bs) (m_be) (m_b0) (m_b1) (m_cm) (m_hc)  hc0 hp0 hR hmo (by omega) hA h_i h_i0 hkn) hZ hc0 cv_X13_103 rfl rfl ⟨Nat.le_of_ble_eq_true rfl, Nat.le_of_ble_eq_true rfl⟩ rfl hl.1 rfl (Nat.le_of_ble_eq_true rfl) dX13_need_2 ⟨(Nat.le_of_ble_eq_true rfl), (Nat.le_of_ble_eq_true rfl)⟩) hZ (fun r7 V4 n5 _ _ hw6 hZ => ?_)
  obtain ⟨rfl, rfl, hp10⟩ := hw6
  have b11 := hq_rng r7
  refine lv_if_ne (tgt := 14) hx hb dX13_need_5 (by decide) (fun c12 => ?_) (fun c12 => ?_)
  · have c12 : ¬ (r7).toInt = (0 : Int) := fun h9 => c12 (hq_eqi.mpr h9)
    have b13 : sp_k w j = (kn : Int) := by have h9 := hp10; omega
    refine lv_aload_n hx hb dX13_need_14 rfl (lv_at hl 0 rfl) ?_
    refine hp_callv (hp_runV (As := []) (rest := []) hx hb hml hown hts (y_next l D cs B G V n hP.1 (q) (mo) (w) (j) (m_tp) (m_sz) (m_fr) (m_bh) (m_hd) (m_ft) (m_fa) (m_le) (m_fo) (m_as) (m_fd) (m_bc) (m_bg) (m_bs) (m_be) (m_b0) (m_b1) (m_cm) (m_hc)  hc0 hp0 hR hmo hmq (by omega) hA (by omega)) hZ hc0 cv_X13_111 rfl rfl ⟨Nat.le_of_ble_eq_true rfl, Nat.le_of_ble_eq_true rfl⟩ rfl hl.1 rfl (Nat.le_of_ble_eq_true rfl) dX13_need_15 ⟨(Nat.le_of_ble_eq_true rfl), (Nat.le_of_ble_eq_true rfl)⟩) hZ (fun V14 n15 _ _ hw16 hZ => ?_)
    obtain ⟨rfl, hq18, fr19, z20, z21, z22, ho23, hp24, hp25⟩ := hw16
    have b26 := hq_rng z20
    have b27 := hq_rng z21
    have b28 := hq_rng z22
    have hP := hP.trans hq18 (fun _ h => Bool.noConfusion h)
    obtain ⟨b29, b30, b31, -⟩ := id hp24
    exact hq_vret hx hb hr hlocks hZ ⟨rfl, rfl, hP, (fun x8 hne0 => fr19 x8 hne0), z20, z21, z22, ho23, (by unfold sp_take; (repeat (first | (rw [if_pos]; rotate_left; omega) | (rw [if_neg]; rotate_left; omega))); (try dsimp only); exact ⟨by first | rfl | omega, hp24⟩)⟩ dX13_need_18
  · have c12 : (r7).toInt = (0 : Int) := hq_eqi.mp c12
    have b32 : ¬ sp_k w j = (kn : Int) := by have h9 := hp10; omega
    refine lv_aload_n hx hb dX13_need_8 rfl (lv_at hl 0 rfl) ?_
    refine lv_iconst (v := 1) hx hb dX13_need_9 (by decide) ?_
    have hl33 : (1 : Int32).toInt = 1 := by decide
    refine hp_callq (hp_runV (As := [.int (1)]) (rest := []) hx hb hml hown hts (y_wrong l D cs B G V n hP.1 (q) (mo) (m_tp) (m_sz) (m_fr) (m_bh) (m_hd) (m_ft) (m_fa) (m_le) (m_fo) (m_as) (m_fd) (m_bc) (m_bg) (m_bs) (m_be) (m_b0) (m_b1) (m_cm) (m_hc) (1)  hc0  hR hmo hmq) hZ hc0 cv_X13_107 rfl rfl ⟨Nat.le_of_ble_eq_true rfl, Nat.le_of_ble_eq_true rfl⟩ rfl hl.1 rfl (Nat.le_of_ble_eq_true rfl) dX13_need_10 ⟨(Nat.le_of_ble_eq_true rfl), (Nat.le_of_ble_eq_true rfl)⟩) hZ (fun r37 V34 n35 _ _ hw36 hZ => ?_)
    obtain ⟨rfl, hq38, fr39, ho40, hp41⟩ := hw36
    have hP := hP.trans hq38 (fun _ h => Bool.noConfusion h)
    subst hp41
    refine W.eq (g2 := F0 m 13 ls [.ref (q + 19)]) rfl ?_
    have hl42 : (1 : Int32).toInt = 1 := by decide
    exact hq_athrow hx hb hnx hlocks hZ ⟨rfl, rfl, hP, (fun x8 hne0 => fr39 x8 hne0), m_fr, m_bh, m_hd, 1, m_fr, ho40, (by unfold sp_take; (repeat (first | (rw [if_pos]; rotate_left; omega) | (rw [if_neg]; rotate_left; omega))); (try dsimp only); exact ⟨by omega, by omega, by omega⟩)⟩ dX13_need_13

set_option maxHeartbeats 4000000 in
set_option maxRecDepth 100000 in
theorem y_isKeyword (l : Launch) (D : va_G) (cs : Nat → ClassId) (B : Nat) (G : hq_G) (V : hp_V) (n : Nat) (hI : hq_I cs G V) (q : Nat) (mo : Nat) (w : sp_W) (j : Nat) (m_tp : Int32) (m_sz : Int32) (m_fr : Int32) (m_bh : Int32) (m_hd : Int32) (m_ft : Int32) (m_fa : Int32) (m_le : Int32) (m_fo : Int32) (m_as : Int32) (m_fd : Int32) (m_bc : Int32) (m_bg : Int32) (m_bs : Int32) (m_be : Int32) (m_b0 : Int32) (m_b1 : Int32) (m_cm : Int32) (m_hc : Int32) (hc0 : V (mo) = some (.inr (13, hm_o q (m_tp) (m_sz) (m_fr) (m_bh) (m_hd) (m_ft) (m_fa) (m_le) (m_fo) (m_as) (m_fd) (m_bc) (m_bg) (m_bs) (m_be) (m_b0) (m_b1) (m_cm) (m_hc)))) (hp0 : hm_TP cs V q w) (hR : hq_RT G q) (hmo : G mo = some (24, 0, 0, 0)) (hmq : mo < q) (hsz : m_sz.toInt = w.2) (hA : hm_A w j m_fr m_bh m_hd) : hp_M l yX13_isKeyword cX13_isKeyword 2 (some .boolean) ({ frames := 6, cells := 0, slots := 0, locals := 129 }) D cs B V n [.ref (mo)] (hp_QI D cs B (fun r V' n' => n = n' ∧ V = V' ∧ ((r.toInt = 1 ∧ sp_k w j ≤ 16) ∨ (r.toInt = 0 ∧ ¬ sp_k w j ≤ 16)))) 0 0 := by
  refine hp_walk (R0 := RX13) (by decide) rfl ?_ (Nat.le_of_ble_eq_true rfl)
  intro p e s m below meth c ls hx hb hr hts hown hlocks hin hml hZ hl
  have hP : hq_I cs G V := hI
  have hl : lv_has ls 2 [(0, .ref (mo))] := hl
  have hb_m_tp := hq_rng m_tp
  have hb_m_sz := hq_rng m_sz
  have hb_m_fr := hq_rng m_fr
  have hb_m_bh := hq_rng m_bh
  have hb_m_hd := hq_rng m_hd
  have hb_m_ft := hq_rng m_ft
  have hb_m_fa := hq_rng m_fa
  have hb_m_le := hq_rng m_le
  have hb_m_fo := hq_rng m_fo
  have hb_m_as := hq_rng m_as
  have hb_m_fd := hq_rng m_fd
  have hb_m_bc := hq_rng m_bc
  have hb_m_bg := hq_rng m_bg
  have hb_m_bs := hq_rng m_bs
  have hb_m_be := hq_rng m_be
  have hb_m_b0 := hq_rng m_b0
  have hb_m_b1 := hq_rng m_b1
  have hb_m_cm := hq_rng m_cm
  have hb_m_hc := hq_rng m_hc
  obtain ⟨b1, b2, b3, -⟩ := id hA
  have htk := sp_tok (w := w) (j := j) hA.1
  refine lv_aload_n hx hb dX13_isKeyword_0 rfl (lv_at hl 0 rfl) ?_
  refine va_ldcS (tx := (hp_so.getD 1 ("", 0, "")).2.2) (q := cs (100 + 1)) hx hb hown (hZ.2.2.2.2.2.2.2.2.2.2 1 (by decide)) dX13_isKeyword_1 ?_
  refine hp_calli (hp_runV (As := [.ref (cs (100 + 1))]) (rest := []) hx hb hml hown hts (y_is l D cs B G V n hP (q) (mo) (w) (j) (1) (6) (m_tp) (m_sz) (m_fr) (m_bh) (m_hd) (m_ft) (m_fa) (m_le) (m_fo) (m_as) (m_fd) (m_bc) (m_bg) (m_bs) (m_be) (m_b0) (m_b1) (m_cm) (m_hc)  hc0 hp0 hR hmo (by omega) hA (by decide) (by decide) rfl) hZ hc0 cv_X13_103 rfl rfl ⟨Nat.le_of_ble_eq_true rfl, Nat.le_of_ble_eq_true rfl⟩ rfl hl.1 rfl (Nat.le_of_ble_eq_true rfl) dX13_isKeyword_3 ⟨(Nat.le_of_ble_eq_true rfl), (Nat.le_of_ble_eq_true rfl)⟩) hZ (fun r7 V4 n5 _ _ hw6 hZ => ?_)
  obtain ⟨rfl, rfl, hp10⟩ := hw6
  have b11 := hq_rng r7
  refine lv_if_ne (tgt := 81) hx hb dX13_isKeyword_6 (by decide) (fun c12 => ?_) (fun c12 => ?_)
  · have c12 : ¬ (r7).toInt = (0 : Int) := fun h9 => c12 (hq_eqi.mpr h9)
    have b13 : sp_k w (j) = 6 := by have h9 := hp10; omega
    refine lv_iconst (v := 1) hx hb dX13_isKeyword_81 (by decide) ?_
    refine lv_goto (tgt := 86) hx hb dX13_isKeyword_82 (by decide) ?_
    refine lv_istore_n (lv' := [(1, .int (1)), (0, .ref (mo))]) hx hb dX13_isKeyword_86 rfl hl (by decide) rfl (fun ls hl => ?_)
    refine lv_iload_n hx hb dX13_isKeyword_87 rfl (lv_at hl 0 rfl) ?_
    refine lv_if_ne (tgt := 163) hx hb dX13_isKeyword_88 (by decide) (fun c14 => ?_) (fun c14 => absurd c14 (by decide))
    refine lv_iconst (v := 1) hx hb dX13_isKeyword_163 (by decide) ?_
    refine lv_goto (tgt := 168) hx hb dX13_isKeyword_164 (by decide) ?_
    have hl15 : (1 : Int32).toInt = 1 := by decide
    exact hp_zret hx hb hr rfl hlocks hZ ⟨rfl, rfl, (by omega)⟩ dX13_isKeyword_168
  · have c12 : (r7).toInt = (0 : Int) := hq_eqi.mp c12
    have b16 : ¬ sp_k w (j) = 6 := by have h9 := hp10; omega
    refine lv_aload_n hx hb dX13_isKeyword_9 rfl (lv_at hl 0 rfl) ?_
    refine va_ldcS (tx := (hp_so.getD 2 ("", 0, "")).2.2) (q := cs (100 + 2)) hx hb hown (hZ.2.2.2.2.2.2.2.2.2.2 2 (by decide)) dX13_isKeyword_10 ?_
    refine hp_calli (hp_runV (As := [.ref (cs (100 + 2))]) (rest := []) hx hb hml hown hts (y_is l D cs B G V n hP (q) (mo) (w) (j) (2) (7) (m_tp) (m_sz) (m_fr) (m_bh) (m_hd) (m_ft) (m_fa) (m_le) (m_fo) (m_as) (m_fd) (m_bc) (m_bg) (m_bs) (m_be) (m_b0) (m_b1) (m_cm) (m_hc)  hc0 hp0 hR hmo (by omega) hA (by decide) (by decide) rfl) hZ hc0 cv_X13_103 rfl rfl ⟨Nat.le_of_ble_eq_true rfl, Nat.le_of_ble_eq_true rfl⟩ rfl hl.1 rfl (Nat.le_of_ble_eq_true rfl) dX13_isKeyword_12 ⟨(Nat.le_of_ble_eq_true rfl), (Nat.le_of_ble_eq_true rfl)⟩) hZ (fun r20 V17 n18 _ _ hw19 hZ => ?_)
    obtain ⟨rfl, rfl, hp23⟩ := hw19
    have b24 := hq_rng r20
    refine lv_if_ne (tgt := 81) hx hb dX13_isKeyword_15 (by decide) (fun c25 => ?_) (fun c25 => ?_)
    · have c25 : ¬ (r20).toInt = (0 : Int) := fun h9 => c25 (hq_eqi.mpr h9)
      have b26 : sp_k w (j) = 7 := by have h9 := hp23; omega
      refine lv_iconst (v := 1) hx hb dX13_isKeyword_81 (by decide) ?_
      refine lv_goto (tgt := 86) hx hb dX13_isKeyword_82 (by decide) ?_
      refine lv_istore_n (lv' := [(1, .int (1)), (0, .ref (mo))]) hx hb dX13_isKeyword_86 rfl hl (by decide) rfl (fun ls hl => ?_)
      refine lv_iload_n hx hb dX13_isKeyword_87 rfl (lv_at hl 0 rfl) ?_
      refine lv_if_ne (tgt := 163) hx hb dX13_isKeyword_88 (by decide) (fun c27 => ?_) (fun c27 => absurd c27 (by decide))
      refine lv_iconst (v := 1) hx hb dX13_isKeyword_163 (by decide) ?_
      refine lv_goto (tgt := 168) hx hb dX13_isKeyword_164 (by decide) ?_
      have hl28 : (1 : Int32).toInt = 1 := by decide
      exact hp_zret hx hb hr rfl hlocks hZ ⟨rfl, rfl, (by omega)⟩ dX13_isKeyword_168
    · have c25 : (r20).toInt = (0 : Int) := hq_eqi.mp c25
      have b29 : ¬ sp_k w (j) = 7 := by have h9 := hp23; omega
      refine lv_aload_n hx hb dX13_isKeyword_18 rfl (lv_at hl 0 rfl) ?_
      refine va_ldcS (tx := (hp_so.getD 3 ("", 0, "")).2.2) (q := cs (100 + 3)) hx hb hown (hZ.2.2.2.2.2.2.2.2.2.2 3 (by decide)) dX13_isKeyword_19 ?_
      refine hp_calli (hp_runV (As := [.ref (cs (100 + 3))]) (rest := []) hx hb hml hown hts (y_is l D cs B G V n hP (q) (mo) (w) (j) (3) (8) (m_tp) (m_sz) (m_fr) (m_bh) (m_hd) (m_ft) (m_fa) (m_le) (m_fo) (m_as) (m_fd) (m_bc) (m_bg) (m_bs) (m_be) (m_b0) (m_b1) (m_cm) (m_hc)  hc0 hp0 hR hmo (by omega) hA (by decide) (by decide) rfl) hZ hc0 cv_X13_103 rfl rfl ⟨Nat.le_of_ble_eq_true rfl, Nat.le_of_ble_eq_true rfl⟩ rfl hl.1 rfl (Nat.le_of_ble_eq_true rfl) dX13_isKeyword_21 ⟨(Nat.le_of_ble_eq_true rfl), (Nat.le_of_ble_eq_true rfl)⟩) hZ (fun r33 V30 n31 _ _ hw32 hZ => ?_)
      obtain ⟨rfl, rfl, hp36⟩ := hw32
      have b37 := hq_rng r33
      refine lv_if_ne (tgt := 81) hx hb dX13_isKeyword_24 (by decide) (fun c38 => ?_) (fun c38 => ?_)
      · have c38 : ¬ (r33).toInt = (0 : Int) := fun h9 => c38 (hq_eqi.mpr h9)
        have b39 : sp_k w (j) = 8 := by have h9 := hp36; omega
        refine lv_iconst (v := 1) hx hb dX13_isKeyword_81 (by decide) ?_
        refine lv_goto (tgt := 86) hx hb dX13_isKeyword_82 (by decide) ?_
        refine lv_istore_n (lv' := [(1, .int (1)), (0, .ref (mo))]) hx hb dX13_isKeyword_86 rfl hl (by decide) rfl (fun ls hl => ?_)
        refine lv_iload_n hx hb dX13_isKeyword_87 rfl (lv_at hl 0 rfl) ?_
        refine lv_if_ne (tgt := 163) hx hb dX13_isKeyword_88 (by decide) (fun c40 => ?_) (fun c40 => absurd c40 (by decide))
        refine lv_iconst (v := 1) hx hb dX13_isKeyword_163 (by decide) ?_
        refine lv_goto (tgt := 168) hx hb dX13_isKeyword_164 (by decide) ?_
        have hl41 : (1 : Int32).toInt = 1 := by decide
        exact hp_zret hx hb hr rfl hlocks hZ ⟨rfl, rfl, (by omega)⟩ dX13_isKeyword_168
      · have c38 : (r33).toInt = (0 : Int) := hq_eqi.mp c38
        have b42 : ¬ sp_k w (j) = 8 := by have h9 := hp36; omega
        refine lv_aload_n hx hb dX13_isKeyword_27 rfl (lv_at hl 0 rfl) ?_
        refine va_ldcS (tx := (hp_so.getD 4 ("", 0, "")).2.2) (q := cs (100 + 4)) hx hb hown (hZ.2.2.2.2.2.2.2.2.2.2 4 (by decide)) dX13_isKeyword_28 ?_
        refine hp_calli (hp_runV (As := [.ref (cs (100 + 4))]) (rest := []) hx hb hml hown hts (y_is l D cs B G V n hP (q) (mo) (w) (j) (4) (0) (m_tp) (m_sz) (m_fr) (m_bh) (m_hd) (m_ft) (m_fa) (m_le) (m_fo) (m_as) (m_fd) (m_bc) (m_bg) (m_bs) (m_be) (m_b0) (m_b1) (m_cm) (m_hc)  hc0 hp0 hR hmo (by omega) hA (by decide) (by decide) rfl) hZ hc0 cv_X13_103 rfl rfl ⟨Nat.le_of_ble_eq_true rfl, Nat.le_of_ble_eq_true rfl⟩ rfl hl.1 rfl (Nat.le_of_ble_eq_true rfl) dX13_isKeyword_30 ⟨(Nat.le_of_ble_eq_true rfl), (Nat.le_of_ble_eq_true rfl)⟩) hZ (fun r46 V43 n44 _ _ hw45 hZ => ?_)
        obtain ⟨rfl, rfl, hp49⟩ := hw45
        have b50 := hq_rng r46
        refine lv_if_ne (tgt := 81) hx hb dX13_isKeyword_33 (by decide) (fun c51 => ?_) (fun c51 => ?_)
        · have c51 : ¬ (r46).toInt = (0 : Int) := fun h9 => c51 (hq_eqi.mpr h9)
          have b52 : sp_k w (j) = 0 := by have h9 := hp49; omega
          refine lv_iconst (v := 1) hx hb dX13_isKeyword_81 (by decide) ?_
          refine lv_goto (tgt := 86) hx hb dX13_isKeyword_82 (by decide) ?_
          refine lv_istore_n (lv' := [(1, .int (1)), (0, .ref (mo))]) hx hb dX13_isKeyword_86 rfl hl (by decide) rfl (fun ls hl => ?_)
          refine lv_iload_n hx hb dX13_isKeyword_87 rfl (lv_at hl 0 rfl) ?_
          refine lv_if_ne (tgt := 163) hx hb dX13_isKeyword_88 (by decide) (fun c53 => ?_) (fun c53 => absurd c53 (by decide))
          refine lv_iconst (v := 1) hx hb dX13_isKeyword_163 (by decide) ?_
          refine lv_goto (tgt := 168) hx hb dX13_isKeyword_164 (by decide) ?_
          have hl54 : (1 : Int32).toInt = 1 := by decide
          exact hp_zret hx hb hr rfl hlocks hZ ⟨rfl, rfl, (by omega)⟩ dX13_isKeyword_168
        · have c51 : (r46).toInt = (0 : Int) := hq_eqi.mp c51
          have b55 : ¬ sp_k w (j) = 0 := by have h9 := hp49; omega
          refine lv_aload_n hx hb dX13_isKeyword_36 rfl (lv_at hl 0 rfl) ?_
          refine va_ldcS (tx := (hp_so.getD 5 ("", 0, "")).2.2) (q := cs (100 + 5)) hx hb hown (hZ.2.2.2.2.2.2.2.2.2.2 5 (by decide)) dX13_isKeyword_37 ?_
          refine hp_calli (hp_runV (As := [.ref (cs (100 + 5))]) (rest := []) hx hb hml hown hts (y_is l D cs B G V n hP (q) (mo) (w) (j) (5) (9) (m_tp) (m_sz) (m_fr) (m_bh) (m_hd) (m_ft) (m_fa) (m_le) (m_fo) (m_as) (m_fd) (m_bc) (m_bg) (m_bs) (m_be) (m_b0) (m_b1) (m_cm) (m_hc)  hc0 hp0 hR hmo (by omega) hA (by decide) (by decide) rfl) hZ hc0 cv_X13_103 rfl rfl ⟨Nat.le_of_ble_eq_true rfl, Nat.le_of_ble_eq_true rfl⟩ rfl hl.1 rfl (Nat.le_of_ble_eq_true rfl) dX13_isKeyword_39 ⟨(Nat.le_of_ble_eq_true rfl), (Nat.le_of_ble_eq_true rfl)⟩) hZ (fun r59 V56 n57 _ _ hw58 hZ => ?_)
          obtain ⟨rfl, rfl, hp62⟩ := hw58
          have b63 := hq_rng r59
          refine lv_if_ne (tgt := 81) hx hb dX13_isKeyword_42 (by decide) (fun c64 => ?_) (fun c64 => ?_)
          · have c64 : ¬ (r59).toInt = (0 : Int) := fun h9 => c64 (hq_eqi.mpr h9)
            have b65 : sp_k w (j) = 9 := by have h9 := hp62; omega
            refine lv_iconst (v := 1) hx hb dX13_isKeyword_81 (by decide) ?_
            refine lv_goto (tgt := 86) hx hb dX13_isKeyword_82 (by decide) ?_
            refine lv_istore_n (lv' := [(1, .int (1)), (0, .ref (mo))]) hx hb dX13_isKeyword_86 rfl hl (by decide) rfl (fun ls hl => ?_)
            refine lv_iload_n hx hb dX13_isKeyword_87 rfl (lv_at hl 0 rfl) ?_
            refine lv_if_ne (tgt := 163) hx hb dX13_isKeyword_88 (by decide) (fun c66 => ?_) (fun c66 => absurd c66 (by decide))
            refine lv_iconst (v := 1) hx hb dX13_isKeyword_163 (by decide) ?_
            refine lv_goto (tgt := 168) hx hb dX13_isKeyword_164 (by decide) ?_
            have hl67 : (1 : Int32).toInt = 1 := by decide
            exact hp_zret hx hb hr rfl hlocks hZ ⟨rfl, rfl, (by omega)⟩ dX13_isKeyword_168
          · have c64 : (r59).toInt = (0 : Int) := hq_eqi.mp c64
            have b68 : ¬ sp_k w (j) = 9 := by have h9 := hp62; omega
            refine lv_aload_n hx hb dX13_isKeyword_45 rfl (lv_at hl 0 rfl) ?_
            refine va_ldcS (tx := (hp_so.getD 6 ("", 0, "")).2.2) (q := cs (100 + 6)) hx hb hown (hZ.2.2.2.2.2.2.2.2.2.2 6 (by decide)) dX13_isKeyword_46 ?_
            refine hp_calli (hp_runV (As := [.ref (cs (100 + 6))]) (rest := []) hx hb hml hown hts (y_is l D cs B G V n hP (q) (mo) (w) (j) (6) (1) (m_tp) (m_sz) (m_fr) (m_bh) (m_hd) (m_ft) (m_fa) (m_le) (m_fo) (m_as) (m_fd) (m_bc) (m_bg) (m_bs) (m_be) (m_b0) (m_b1) (m_cm) (m_hc)  hc0 hp0 hR hmo (by omega) hA (by decide) (by decide) rfl) hZ hc0 cv_X13_103 rfl rfl ⟨Nat.le_of_ble_eq_true rfl, Nat.le_of_ble_eq_true rfl⟩ rfl hl.1 rfl (Nat.le_of_ble_eq_true rfl) dX13_isKeyword_48 ⟨(Nat.le_of_ble_eq_true rfl), (Nat.le_of_ble_eq_true rfl)⟩) hZ (fun r72 V69 n70 _ _ hw71 hZ => ?_)
            obtain ⟨rfl, rfl, hp75⟩ := hw71
            have b76 := hq_rng r72
            refine lv_if_ne (tgt := 81) hx hb dX13_isKeyword_51 (by decide) (fun c77 => ?_) (fun c77 => ?_)
            · have c77 : ¬ (r72).toInt = (0 : Int) := fun h9 => c77 (hq_eqi.mpr h9)
              have b78 : sp_k w (j) = 1 := by have h9 := hp75; omega
              refine lv_iconst (v := 1) hx hb dX13_isKeyword_81 (by decide) ?_
              refine lv_goto (tgt := 86) hx hb dX13_isKeyword_82 (by decide) ?_
              refine lv_istore_n (lv' := [(1, .int (1)), (0, .ref (mo))]) hx hb dX13_isKeyword_86 rfl hl (by decide) rfl (fun ls hl => ?_)
              refine lv_iload_n hx hb dX13_isKeyword_87 rfl (lv_at hl 0 rfl) ?_
              refine lv_if_ne (tgt := 163) hx hb dX13_isKeyword_88 (by decide) (fun c79 => ?_) (fun c79 => absurd c79 (by decide))
              refine lv_iconst (v := 1) hx hb dX13_isKeyword_163 (by decide) ?_
              refine lv_goto (tgt := 168) hx hb dX13_isKeyword_164 (by decide) ?_
              have hl80 : (1 : Int32).toInt = 1 := by decide
              exact hp_zret hx hb hr rfl hlocks hZ ⟨rfl, rfl, (by omega)⟩ dX13_isKeyword_168
            · have c77 : (r72).toInt = (0 : Int) := hq_eqi.mp c77
              have b81 : ¬ sp_k w (j) = 1 := by have h9 := hp75; omega
              refine lv_aload_n hx hb dX13_isKeyword_54 rfl (lv_at hl 0 rfl) ?_
              refine va_ldcS (tx := (hp_so.getD 7 ("", 0, "")).2.2) (q := cs (100 + 7)) hx hb hown (hZ.2.2.2.2.2.2.2.2.2.2 7 (by decide)) dX13_isKeyword_55 ?_
              refine hp_calli (hp_runV (As := [.ref (cs (100 + 7))]) (rest := []) hx hb hml hown hts (y_is l D cs B G V n hP (q) (mo) (w) (j) (7) (2) (m_tp) (m_sz) (m_fr) (m_bh) (m_hd) (m_ft) (m_fa) (m_le) (m_fo) (m_as) (m_fd) (m_bc) (m_bg) (m_bs) (m_be) (m_b0) (m_b1) (m_cm) (m_hc)  hc0 hp0 hR hmo (by omega) hA (by decide) (by decide) rfl) hZ hc0 cv_X13_103 rfl rfl ⟨Nat.le_of_ble_eq_true rfl, Nat.le_of_ble_eq_true rfl⟩ rfl hl.1 rfl (Nat.le_of_ble_eq_true rfl) dX13_isKeyword_57 ⟨(Nat.le_of_ble_eq_true rfl), (Nat.le_of_ble_eq_true rfl)⟩) hZ (fun r85 V82 n83 _ _ hw84 hZ => ?_)
              obtain ⟨rfl, rfl, hp88⟩ := hw84
              have b89 := hq_rng r85
              refine lv_if_ne (tgt := 81) hx hb dX13_isKeyword_60 (by decide) (fun c90 => ?_) (fun c90 => ?_)
              · have c90 : ¬ (r85).toInt = (0 : Int) := fun h9 => c90 (hq_eqi.mpr h9)
                have b91 : sp_k w (j) = 2 := by have h9 := hp88; omega
                refine lv_iconst (v := 1) hx hb dX13_isKeyword_81 (by decide) ?_
                refine lv_goto (tgt := 86) hx hb dX13_isKeyword_82 (by decide) ?_
                refine lv_istore_n (lv' := [(1, .int (1)), (0, .ref (mo))]) hx hb dX13_isKeyword_86 rfl hl (by decide) rfl (fun ls hl => ?_)
                refine lv_iload_n hx hb dX13_isKeyword_87 rfl (lv_at hl 0 rfl) ?_
                refine lv_if_ne (tgt := 163) hx hb dX13_isKeyword_88 (by decide) (fun c92 => ?_) (fun c92 => absurd c92 (by decide))
                refine lv_iconst (v := 1) hx hb dX13_isKeyword_163 (by decide) ?_
                refine lv_goto (tgt := 168) hx hb dX13_isKeyword_164 (by decide) ?_
                have hl93 : (1 : Int32).toInt = 1 := by decide
                exact hp_zret hx hb hr rfl hlocks hZ ⟨rfl, rfl, (by omega)⟩ dX13_isKeyword_168
              · have c90 : (r85).toInt = (0 : Int) := hq_eqi.mp c90
                have b94 : ¬ sp_k w (j) = 2 := by have h9 := hp88; omega
                refine lv_aload_n hx hb dX13_isKeyword_63 rfl (lv_at hl 0 rfl) ?_
                refine va_ldcS (tx := (hp_so.getD 8 ("", 0, "")).2.2) (q := cs (100 + 8)) hx hb hown (hZ.2.2.2.2.2.2.2.2.2.2 8 (by decide)) dX13_isKeyword_64 ?_
                refine hp_calli (hp_runV (As := [.ref (cs (100 + 8))]) (rest := []) hx hb hml hown hts (y_is l D cs B G V n hP (q) (mo) (w) (j) (8) (10) (m_tp) (m_sz) (m_fr) (m_bh) (m_hd) (m_ft) (m_fa) (m_le) (m_fo) (m_as) (m_fd) (m_bc) (m_bg) (m_bs) (m_be) (m_b0) (m_b1) (m_cm) (m_hc)  hc0 hp0 hR hmo (by omega) hA (by decide) (by decide) rfl) hZ hc0 cv_X13_103 rfl rfl ⟨Nat.le_of_ble_eq_true rfl, Nat.le_of_ble_eq_true rfl⟩ rfl hl.1 rfl (Nat.le_of_ble_eq_true rfl) dX13_isKeyword_66 ⟨(Nat.le_of_ble_eq_true rfl), (Nat.le_of_ble_eq_true rfl)⟩) hZ (fun r98 V95 n96 _ _ hw97 hZ => ?_)
                obtain ⟨rfl, rfl, hp101⟩ := hw97
                have b102 := hq_rng r98
                refine lv_if_ne (tgt := 81) hx hb dX13_isKeyword_69 (by decide) (fun c103 => ?_) (fun c103 => ?_)
                · have c103 : ¬ (r98).toInt = (0 : Int) := fun h9 => c103 (hq_eqi.mpr h9)
                  have b104 : sp_k w (j) = 10 := by have h9 := hp101; omega
                  refine lv_iconst (v := 1) hx hb dX13_isKeyword_81 (by decide) ?_
                  refine lv_goto (tgt := 86) hx hb dX13_isKeyword_82 (by decide) ?_
                  refine lv_istore_n (lv' := [(1, .int (1)), (0, .ref (mo))]) hx hb dX13_isKeyword_86 rfl hl (by decide) rfl (fun ls hl => ?_)
                  refine lv_iload_n hx hb dX13_isKeyword_87 rfl (lv_at hl 0 rfl) ?_
                  refine lv_if_ne (tgt := 163) hx hb dX13_isKeyword_88 (by decide) (fun c105 => ?_) (fun c105 => absurd c105 (by decide))
                  refine lv_iconst (v := 1) hx hb dX13_isKeyword_163 (by decide) ?_
                  refine lv_goto (tgt := 168) hx hb dX13_isKeyword_164 (by decide) ?_
                  have hl106 : (1 : Int32).toInt = 1 := by decide
                  exact hp_zret hx hb hr rfl hlocks hZ ⟨rfl, rfl, (by omega)⟩ dX13_isKeyword_168
                · have c103 : (r98).toInt = (0 : Int) := hq_eqi.mp c103
                  have b107 : ¬ sp_k w (j) = 10 := by have h9 := hp101; omega
                  refine lv_aload_n hx hb dX13_isKeyword_72 rfl (lv_at hl 0 rfl) ?_
                  refine va_ldcS (tx := (hp_so.getD 9 ("", 0, "")).2.2) (q := cs (100 + 9)) hx hb hown (hZ.2.2.2.2.2.2.2.2.2.2 9 (by decide)) dX13_isKeyword_73 ?_
                  refine hp_calli (hp_runV (As := [.ref (cs (100 + 9))]) (rest := []) hx hb hml hown hts (y_is l D cs B G V n hP (q) (mo) (w) (j) (9) (3) (m_tp) (m_sz) (m_fr) (m_bh) (m_hd) (m_ft) (m_fa) (m_le) (m_fo) (m_as) (m_fd) (m_bc) (m_bg) (m_bs) (m_be) (m_b0) (m_b1) (m_cm) (m_hc)  hc0 hp0 hR hmo (by omega) hA (by decide) (by decide) rfl) hZ hc0 cv_X13_103 rfl rfl ⟨Nat.le_of_ble_eq_true rfl, Nat.le_of_ble_eq_true rfl⟩ rfl hl.1 rfl (Nat.le_of_ble_eq_true rfl) dX13_isKeyword_75 ⟨(Nat.le_of_ble_eq_true rfl), (Nat.le_of_ble_eq_true rfl)⟩) hZ (fun r111 V108 n109 _ _ hw110 hZ => ?_)
                  obtain ⟨rfl, rfl, hp114⟩ := hw110
                  have b115 := hq_rng r111
                  refine lv_if_eq (tgt := 85) hx hb dX13_isKeyword_78 (by decide) (fun c116 => ?_) (fun c116 => ?_)
                  · have c116 : (r111).toInt = (0 : Int) := hq_eqi.mp c116
                    have b117 : ¬ sp_k w (j) = 3 := by have h9 := hp114; omega
                    refine lv_iconst (v := 0) hx hb dX13_isKeyword_85 (by decide) ?_
                    refine lv_istore_n (lv' := [(1, .int (0)), (0, .ref (mo))]) hx hb dX13_isKeyword_86 rfl hl (by decide) rfl (fun ls hl => ?_)
                    refine lv_iload_n hx hb dX13_isKeyword_87 rfl (lv_at hl 0 rfl) ?_
                    refine lv_if_ne (tgt := 163) hx hb dX13_isKeyword_88 (by decide) (fun c118 => absurd (by decide) c118) (fun c118 => ?_)
                    refine lv_aload_n hx hb dX13_isKeyword_91 rfl (lv_at hl 1 rfl) ?_
                    refine va_ldcS (tx := (hp_so.getD 10 ("", 0, "")).2.2) (q := cs (100 + 10)) hx hb hown (hZ.2.2.2.2.2.2.2.2.2.2 10 (by decide)) dX13_isKeyword_92 ?_
                    refine hp_calli (hp_runV (As := [.ref (cs (100 + 10))]) (rest := []) hx hb hml hown hts (y_is l D cs B G V n hP (q) (mo) (w) (j) (10) (11) (m_tp) (m_sz) (m_fr) (m_bh) (m_hd) (m_ft) (m_fa) (m_le) (m_fo) (m_as) (m_fd) (m_bc) (m_bg) (m_bs) (m_be) (m_b0) (m_b1) (m_cm) (m_hc)  hc0 hp0 hR hmo (by omega) hA (by decide) (by decide) rfl) hZ hc0 cv_X13_103 rfl rfl ⟨Nat.le_of_ble_eq_true rfl, Nat.le_of_ble_eq_true rfl⟩ rfl hl.1 rfl (Nat.le_of_ble_eq_true rfl) dX13_isKeyword_94 ⟨(Nat.le_of_ble_eq_true rfl), (Nat.le_of_ble_eq_true rfl)⟩) hZ (fun r122 V119 n120 _ _ hw121 hZ => ?_)
                    obtain ⟨rfl, rfl, hp125⟩ := hw121
                    have b126 := hq_rng r122
                    refine lv_if_ne (tgt := 163) hx hb dX13_isKeyword_97 (by decide) (fun c127 => ?_) (fun c127 => ?_)
                    · have c127 : ¬ (r122).toInt = (0 : Int) := fun h9 => c127 (hq_eqi.mpr h9)
                      have b128 : sp_k w (j) = 11 := by have h9 := hp125; omega
                      refine lv_iconst (v := 1) hx hb dX13_isKeyword_163 (by decide) ?_
                      refine lv_goto (tgt := 168) hx hb dX13_isKeyword_164 (by decide) ?_
                      have hl129 : (1 : Int32).toInt = 1 := by decide
                      exact hp_zret hx hb hr rfl hlocks hZ ⟨rfl, rfl, (by omega)⟩ dX13_isKeyword_168
                    · have c127 : (r122).toInt = (0 : Int) := hq_eqi.mp c127
                      have b130 : ¬ sp_k w (j) = 11 := by have h9 := hp125; omega
                      refine lv_aload_n hx hb dX13_isKeyword_100 rfl (lv_at hl 1 rfl) ?_
                      refine va_ldcS (tx := (hp_so.getD 11 ("", 0, "")).2.2) (q := cs (100 + 11)) hx hb hown (hZ.2.2.2.2.2.2.2.2.2.2 11 (by decide)) dX13_isKeyword_101 ?_
                      refine hp_calli (hp_runV (As := [.ref (cs (100 + 11))]) (rest := []) hx hb hml hown hts (y_is l D cs B G V n hP (q) (mo) (w) (j) (11) (12) (m_tp) (m_sz) (m_fr) (m_bh) (m_hd) (m_ft) (m_fa) (m_le) (m_fo) (m_as) (m_fd) (m_bc) (m_bg) (m_bs) (m_be) (m_b0) (m_b1) (m_cm) (m_hc)  hc0 hp0 hR hmo (by omega) hA (by decide) (by decide) rfl) hZ hc0 cv_X13_103 rfl rfl ⟨Nat.le_of_ble_eq_true rfl, Nat.le_of_ble_eq_true rfl⟩ rfl hl.1 rfl (Nat.le_of_ble_eq_true rfl) dX13_isKeyword_103 ⟨(Nat.le_of_ble_eq_true rfl), (Nat.le_of_ble_eq_true rfl)⟩) hZ (fun r134 V131 n132 _ _ hw133 hZ => ?_)
                      obtain ⟨rfl, rfl, hp137⟩ := hw133
                      have b138 := hq_rng r134
                      refine lv_if_ne (tgt := 163) hx hb dX13_isKeyword_106 (by decide) (fun c139 => ?_) (fun c139 => ?_)
                      · have c139 : ¬ (r134).toInt = (0 : Int) := fun h9 => c139 (hq_eqi.mpr h9)
                        have b140 : sp_k w (j) = 12 := by have h9 := hp137; omega
                        refine lv_iconst (v := 1) hx hb dX13_isKeyword_163 (by decide) ?_
                        refine lv_goto (tgt := 168) hx hb dX13_isKeyword_164 (by decide) ?_
                        have hl141 : (1 : Int32).toInt = 1 := by decide
                        exact hp_zret hx hb hr rfl hlocks hZ ⟨rfl, rfl, (by omega)⟩ dX13_isKeyword_168
                      · have c139 : (r134).toInt = (0 : Int) := hq_eqi.mp c139
                        have b142 : ¬ sp_k w (j) = 12 := by have h9 := hp137; omega
                        refine lv_aload_n hx hb dX13_isKeyword_109 rfl (lv_at hl 1 rfl) ?_
                        refine va_ldcS (tx := (hp_so.getD 12 ("", 0, "")).2.2) (q := cs (100 + 12)) hx hb hown (hZ.2.2.2.2.2.2.2.2.2.2 12 (by decide)) dX13_isKeyword_110 ?_
                        refine hp_calli (hp_runV (As := [.ref (cs (100 + 12))]) (rest := []) hx hb hml hown hts (y_is l D cs B G V n hP (q) (mo) (w) (j) (12) (13) (m_tp) (m_sz) (m_fr) (m_bh) (m_hd) (m_ft) (m_fa) (m_le) (m_fo) (m_as) (m_fd) (m_bc) (m_bg) (m_bs) (m_be) (m_b0) (m_b1) (m_cm) (m_hc)  hc0 hp0 hR hmo (by omega) hA (by decide) (by decide) rfl) hZ hc0 cv_X13_103 rfl rfl ⟨Nat.le_of_ble_eq_true rfl, Nat.le_of_ble_eq_true rfl⟩ rfl hl.1 rfl (Nat.le_of_ble_eq_true rfl) dX13_isKeyword_112 ⟨(Nat.le_of_ble_eq_true rfl), (Nat.le_of_ble_eq_true rfl)⟩) hZ (fun r146 V143 n144 _ _ hw145 hZ => ?_)
                        obtain ⟨rfl, rfl, hp149⟩ := hw145
                        have b150 := hq_rng r146
                        refine lv_if_ne (tgt := 163) hx hb dX13_isKeyword_115 (by decide) (fun c151 => ?_) (fun c151 => ?_)
                        · have c151 : ¬ (r146).toInt = (0 : Int) := fun h9 => c151 (hq_eqi.mpr h9)
                          have b152 : sp_k w (j) = 13 := by have h9 := hp149; omega
                          refine lv_iconst (v := 1) hx hb dX13_isKeyword_163 (by decide) ?_
                          refine lv_goto (tgt := 168) hx hb dX13_isKeyword_164 (by decide) ?_
                          have hl153 : (1 : Int32).toInt = 1 := by decide
                          exact hp_zret hx hb hr rfl hlocks hZ ⟨rfl, rfl, (by omega)⟩ dX13_isKeyword_168
                        · have c151 : (r146).toInt = (0 : Int) := hq_eqi.mp c151
                          have b154 : ¬ sp_k w (j) = 13 := by have h9 := hp149; omega
                          refine lv_aload_n hx hb dX13_isKeyword_118 rfl (lv_at hl 1 rfl) ?_
                          refine va_ldcS (tx := (hp_so.getD 13 ("", 0, "")).2.2) (q := cs (100 + 13)) hx hb hown (hZ.2.2.2.2.2.2.2.2.2.2 13 (by decide)) dX13_isKeyword_119 ?_
                          refine hp_calli (hp_runV (As := [.ref (cs (100 + 13))]) (rest := []) hx hb hml hown hts (y_is l D cs B G V n hP (q) (mo) (w) (j) (13) (4) (m_tp) (m_sz) (m_fr) (m_bh) (m_hd) (m_ft) (m_fa) (m_le) (m_fo) (m_as) (m_fd) (m_bc) (m_bg) (m_bs) (m_be) (m_b0) (m_b1) (m_cm) (m_hc)  hc0 hp0 hR hmo (by omega) hA (by decide) (by decide) rfl) hZ hc0 cv_X13_103 rfl rfl ⟨Nat.le_of_ble_eq_true rfl, Nat.le_of_ble_eq_true rfl⟩ rfl hl.1 rfl (Nat.le_of_ble_eq_true rfl) dX13_isKeyword_121 ⟨(Nat.le_of_ble_eq_true rfl), (Nat.le_of_ble_eq_true rfl)⟩) hZ (fun r158 V155 n156 _ _ hw157 hZ => ?_)
                          obtain ⟨rfl, rfl, hp161⟩ := hw157
                          have b162 := hq_rng r158
                          refine lv_if_ne (tgt := 163) hx hb dX13_isKeyword_124 (by decide) (fun c163 => ?_) (fun c163 => ?_)
                          · have c163 : ¬ (r158).toInt = (0 : Int) := fun h9 => c163 (hq_eqi.mpr h9)
                            have b164 : sp_k w (j) = 4 := by have h9 := hp161; omega
                            refine lv_iconst (v := 1) hx hb dX13_isKeyword_163 (by decide) ?_
                            refine lv_goto (tgt := 168) hx hb dX13_isKeyword_164 (by decide) ?_
                            have hl165 : (1 : Int32).toInt = 1 := by decide
                            exact hp_zret hx hb hr rfl hlocks hZ ⟨rfl, rfl, (by omega)⟩ dX13_isKeyword_168
                          · have c163 : (r158).toInt = (0 : Int) := hq_eqi.mp c163
                            have b166 : ¬ sp_k w (j) = 4 := by have h9 := hp161; omega
                            refine lv_aload_n hx hb dX13_isKeyword_127 rfl (lv_at hl 1 rfl) ?_
                            refine va_ldcS (tx := (hp_so.getD 14 ("", 0, "")).2.2) (q := cs (100 + 14)) hx hb hown (hZ.2.2.2.2.2.2.2.2.2.2 14 (by decide)) dX13_isKeyword_128 ?_
                            refine hp_calli (hp_runV (As := [.ref (cs (100 + 14))]) (rest := []) hx hb hml hown hts (y_is l D cs B G V n hP (q) (mo) (w) (j) (14) (5) (m_tp) (m_sz) (m_fr) (m_bh) (m_hd) (m_ft) (m_fa) (m_le) (m_fo) (m_as) (m_fd) (m_bc) (m_bg) (m_bs) (m_be) (m_b0) (m_b1) (m_cm) (m_hc)  hc0 hp0 hR hmo (by omega) hA (by decide) (by decide) rfl) hZ hc0 cv_X13_103 rfl rfl ⟨Nat.le_of_ble_eq_true rfl, Nat.le_of_ble_eq_true rfl⟩ rfl hl.1 rfl (Nat.le_of_ble_eq_true rfl) dX13_isKeyword_130 ⟨(Nat.le_of_ble_eq_true rfl), (Nat.le_of_ble_eq_true rfl)⟩) hZ (fun r170 V167 n168 _ _ hw169 hZ => ?_)
                            obtain ⟨rfl, rfl, hp173⟩ := hw169
                            have b174 := hq_rng r170
                            refine lv_if_ne (tgt := 163) hx hb dX13_isKeyword_133 (by decide) (fun c175 => ?_) (fun c175 => ?_)
                            · have c175 : ¬ (r170).toInt = (0 : Int) := fun h9 => c175 (hq_eqi.mpr h9)
                              have b176 : sp_k w (j) = 5 := by have h9 := hp173; omega
                              refine lv_iconst (v := 1) hx hb dX13_isKeyword_163 (by decide) ?_
                              refine lv_goto (tgt := 168) hx hb dX13_isKeyword_164 (by decide) ?_
                              have hl177 : (1 : Int32).toInt = 1 := by decide
                              exact hp_zret hx hb hr rfl hlocks hZ ⟨rfl, rfl, (by omega)⟩ dX13_isKeyword_168
                            · have c175 : (r170).toInt = (0 : Int) := hq_eqi.mp c175
                              have b178 : ¬ sp_k w (j) = 5 := by have h9 := hp173; omega
                              refine lv_aload_n hx hb dX13_isKeyword_136 rfl (lv_at hl 1 rfl) ?_
                              refine va_ldcS (tx := (hp_so.getD 15 ("", 0, "")).2.2) (q := cs (100 + 15)) hx hb hown (hZ.2.2.2.2.2.2.2.2.2.2 15 (by decide)) dX13_isKeyword_137 ?_
                              refine hp_calli (hp_runV (As := [.ref (cs (100 + 15))]) (rest := []) hx hb hml hown hts (y_is l D cs B G V n hP (q) (mo) (w) (j) (15) (14) (m_tp) (m_sz) (m_fr) (m_bh) (m_hd) (m_ft) (m_fa) (m_le) (m_fo) (m_as) (m_fd) (m_bc) (m_bg) (m_bs) (m_be) (m_b0) (m_b1) (m_cm) (m_hc)  hc0 hp0 hR hmo (by omega) hA (by decide) (by decide) rfl) hZ hc0 cv_X13_103 rfl rfl ⟨Nat.le_of_ble_eq_true rfl, Nat.le_of_ble_eq_true rfl⟩ rfl hl.1 rfl (Nat.le_of_ble_eq_true rfl) dX13_isKeyword_139 ⟨(Nat.le_of_ble_eq_true rfl), (Nat.le_of_ble_eq_true rfl)⟩) hZ (fun r182 V179 n180 _ _ hw181 hZ => ?_)
                              obtain ⟨rfl, rfl, hp185⟩ := hw181
                              have b186 := hq_rng r182
                              refine lv_if_ne (tgt := 163) hx hb dX13_isKeyword_142 (by decide) (fun c187 => ?_) (fun c187 => ?_)
                              · have c187 : ¬ (r182).toInt = (0 : Int) := fun h9 => c187 (hq_eqi.mpr h9)
                                have b188 : sp_k w (j) = 14 := by have h9 := hp185; omega
                                refine lv_iconst (v := 1) hx hb dX13_isKeyword_163 (by decide) ?_
                                refine lv_goto (tgt := 168) hx hb dX13_isKeyword_164 (by decide) ?_
                                have hl189 : (1 : Int32).toInt = 1 := by decide
                                exact hp_zret hx hb hr rfl hlocks hZ ⟨rfl, rfl, (by omega)⟩ dX13_isKeyword_168
                              · have c187 : (r182).toInt = (0 : Int) := hq_eqi.mp c187
                                have b190 : ¬ sp_k w (j) = 14 := by have h9 := hp185; omega
                                refine lv_aload_n hx hb dX13_isKeyword_145 rfl (lv_at hl 1 rfl) ?_
                                refine va_ldcS (tx := (hp_so.getD 16 ("", 0, "")).2.2) (q := cs (100 + 16)) hx hb hown (hZ.2.2.2.2.2.2.2.2.2.2 16 (by decide)) dX13_isKeyword_146 ?_
                                refine hp_calli (hp_runV (As := [.ref (cs (100 + 16))]) (rest := []) hx hb hml hown hts (y_is l D cs B G V n hP (q) (mo) (w) (j) (16) (15) (m_tp) (m_sz) (m_fr) (m_bh) (m_hd) (m_ft) (m_fa) (m_le) (m_fo) (m_as) (m_fd) (m_bc) (m_bg) (m_bs) (m_be) (m_b0) (m_b1) (m_cm) (m_hc)  hc0 hp0 hR hmo (by omega) hA (by decide) (by decide) rfl) hZ hc0 cv_X13_103 rfl rfl ⟨Nat.le_of_ble_eq_true rfl, Nat.le_of_ble_eq_true rfl⟩ rfl hl.1 rfl (Nat.le_of_ble_eq_true rfl) dX13_isKeyword_148 ⟨(Nat.le_of_ble_eq_true rfl), (Nat.le_of_ble_eq_true rfl)⟩) hZ (fun r194 V191 n192 _ _ hw193 hZ => ?_)
                                obtain ⟨rfl, rfl, hp197⟩ := hw193
                                have b198 := hq_rng r194
                                refine lv_if_ne (tgt := 163) hx hb dX13_isKeyword_151 (by decide) (fun c199 => ?_) (fun c199 => ?_)
                                · have c199 : ¬ (r194).toInt = (0 : Int) := fun h9 => c199 (hq_eqi.mpr h9)
                                  have b200 : sp_k w (j) = 15 := by have h9 := hp197; omega
                                  refine lv_iconst (v := 1) hx hb dX13_isKeyword_163 (by decide) ?_
                                  refine lv_goto (tgt := 168) hx hb dX13_isKeyword_164 (by decide) ?_
                                  have hl201 : (1 : Int32).toInt = 1 := by decide
                                  exact hp_zret hx hb hr rfl hlocks hZ ⟨rfl, rfl, (by omega)⟩ dX13_isKeyword_168
                                · have c199 : (r194).toInt = (0 : Int) := hq_eqi.mp c199
                                  have b202 : ¬ sp_k w (j) = 15 := by have h9 := hp197; omega
                                  refine lv_aload_n hx hb dX13_isKeyword_154 rfl (lv_at hl 1 rfl) ?_
                                  refine va_ldcS (tx := (hp_so.getD 17 ("", 0, "")).2.2) (q := cs (100 + 17)) hx hb hown (hZ.2.2.2.2.2.2.2.2.2.2 17 (by decide)) dX13_isKeyword_155 ?_
                                  refine hp_calli (hp_runV (As := [.ref (cs (100 + 17))]) (rest := []) hx hb hml hown hts (y_is l D cs B G V n hP (q) (mo) (w) (j) (17) (16) (m_tp) (m_sz) (m_fr) (m_bh) (m_hd) (m_ft) (m_fa) (m_le) (m_fo) (m_as) (m_fd) (m_bc) (m_bg) (m_bs) (m_be) (m_b0) (m_b1) (m_cm) (m_hc)  hc0 hp0 hR hmo (by omega) hA (by decide) (by decide) rfl) hZ hc0 cv_X13_103 rfl rfl ⟨Nat.le_of_ble_eq_true rfl, Nat.le_of_ble_eq_true rfl⟩ rfl hl.1 rfl (Nat.le_of_ble_eq_true rfl) dX13_isKeyword_157 ⟨(Nat.le_of_ble_eq_true rfl), (Nat.le_of_ble_eq_true rfl)⟩) hZ (fun r206 V203 n204 _ _ hw205 hZ => ?_)
                                  obtain ⟨rfl, rfl, hp209⟩ := hw205
                                  have b210 := hq_rng r206
                                  refine lv_if_eq (tgt := 167) hx hb dX13_isKeyword_160 (by decide) (fun c211 => ?_) (fun c211 => ?_)
                                  · have c211 : (r206).toInt = (0 : Int) := hq_eqi.mp c211
                                    have b212 : ¬ sp_k w (j) = 16 := by have h9 := hp209; omega
                                    refine lv_iconst (v := 0) hx hb dX13_isKeyword_167 (by decide) ?_
                                    have hl213 : (0 : Int32).toInt = 0 := by decide
                                    exact hp_zret hx hb hr rfl hlocks hZ ⟨rfl, rfl, (by omega)⟩ dX13_isKeyword_168
                                  · have c211 : ¬ (r206).toInt = (0 : Int) := fun h9 => c211 (hq_eqi.mpr h9)
                                    have b214 : sp_k w (j) = 16 := by have h9 := hp209; omega
                                    refine lv_iconst (v := 1) hx hb dX13_isKeyword_163 (by decide) ?_
                                    refine lv_goto (tgt := 168) hx hb dX13_isKeyword_164 (by decide) ?_
                                    have hl215 : (1 : Int32).toInt = 1 := by decide
                                    exact hp_zret hx hb hr rfl hlocks hZ ⟨rfl, rfl, (by omega)⟩ dX13_isKeyword_168
                  · have c116 : ¬ (r111).toInt = (0 : Int) := fun h9 => c116 (hq_eqi.mpr h9)
                    have b216 : sp_k w (j) = 3 := by have h9 := hp114; omega
                    refine lv_iconst (v := 1) hx hb dX13_isKeyword_81 (by decide) ?_
                    refine lv_goto (tgt := 86) hx hb dX13_isKeyword_82 (by decide) ?_
                    refine lv_istore_n (lv' := [(1, .int (1)), (0, .ref (mo))]) hx hb dX13_isKeyword_86 rfl hl (by decide) rfl (fun ls hl => ?_)
                    refine lv_iload_n hx hb dX13_isKeyword_87 rfl (lv_at hl 0 rfl) ?_
                    refine lv_if_ne (tgt := 163) hx hb dX13_isKeyword_88 (by decide) (fun c217 => ?_) (fun c217 => absurd c217 (by decide))
                    refine lv_iconst (v := 1) hx hb dX13_isKeyword_163 (by decide) ?_
                    refine lv_goto (tgt := 168) hx hb dX13_isKeyword_164 (by decide) ?_
                    have hl218 : (1 : Int32).toInt = 1 := by decide
                    exact hp_zret hx hb hr rfl hlocks hZ ⟨rfl, rfl, (by omega)⟩ dX13_isKeyword_168

set_option maxHeartbeats 4000000 in
set_option maxRecDepth 100000 in
theorem y_needName (l : Launch) (D : va_G) (cs : Nat → ClassId) (B : Nat) (G : hq_G) (V : hp_V) (n : Nat) (hI : hq_I cs G V) (q : Nat) (mo : Nat) (w : sp_W) (j : Nat) (m_tp : Int32) (m_sz : Int32) (m_fr : Int32) (m_bh : Int32) (m_hd : Int32) (m_ft : Int32) (m_fa : Int32) (m_le : Int32) (m_fo : Int32) (m_as : Int32) (m_fd : Int32) (m_bc : Int32) (m_bg : Int32) (m_bs : Int32) (m_be : Int32) (m_b0 : Int32) (m_b1 : Int32) (m_cm : Int32) (m_hc : Int32) (hc0 : V (mo) = some (.inr (13, hm_o q (m_tp) (m_sz) (m_fr) (m_bh) (m_hd) (m_ft) (m_fa) (m_le) (m_fo) (m_as) (m_fd) (m_bc) (m_bg) (m_bs) (m_be) (m_b0) (m_b1) (m_cm) (m_hc)))) (hp0 : hm_TP cs V q w) (hR : hq_RT G q) (hmo : G mo = some (24, 0, 0, 0)) (hmq : mo < q) (hsz : m_sz.toInt = w.2) (hA : hm_A w j m_fr m_bh m_hd) : hq_M l yX13_needName cX13_needName 1 none ({ frames := 7, cells := 0, slots := 0, locals := 150 }) D cs B V n [.ref (mo)] (hq_QX D cs B (fun v V' n' => v = none ∧ n = n' ∧ hq_P cs G (fun _ => true) V V' ∧ (∀ x, x ≠ mo → V' x = V x) ∧ V' (mo) = some (.inr (13, hm_o q (m_tp) (m_sz) (m_fr) (m_bh) (m_hd) (m_ft) (m_fa) (m_le) (m_fo) (m_as) (m_fd) (m_bc) (m_bg) (m_bs) (m_be) (m_b0) (m_b1) (m_cm) (m_hc))) ∧ (sp_k w j = 17)) (fun x V' n' => x = q + 19 ∧ n = n' ∧ hq_P cs G (fun _ => true) V V' ∧ (∀ x, x ≠ mo → V' x = V x) ∧ (∃ m_ft1 : Int32, ∃ m_fa1 : Int32, V' (mo) = some (.inr (13, hm_o q (m_tp) (m_sz) (m_fr) (m_bh) (m_hd) (m_ft1) (m_fa1) (m_le) (m_fo) (m_as) (m_fd) (m_bc) (m_bg) (m_bs) (m_be) (m_b0) (m_b1) (m_cm) (m_hc))) ∧ (¬ sp_k w j = 17 ∧ m_ft1.toInt = 1 ∧ m_fa1.toInt = sp_s w j)))) 0 0 := by
  refine hq_walk (R0 := RX13) (by decide) rfl ?_ (Nat.le_of_ble_eq_true rfl)
  intro p e s m below meth c ls hx hb hr hts hown hlocks hin hml hnx hZ hl
  have hP : hq_P cs G (fun _ => true) V V := hq_P.rf hI
  have hl : lv_has ls 1 [(0, .ref (mo))] := hl
  have hb_m_tp := hq_rng m_tp
  have hb_m_sz := hq_rng m_sz
  have hb_m_fr := hq_rng m_fr
  have hb_m_bh := hq_rng m_bh
  have hb_m_hd := hq_rng m_hd
  have hb_m_ft := hq_rng m_ft
  have hb_m_fa := hq_rng m_fa
  have hb_m_le := hq_rng m_le
  have hb_m_fo := hq_rng m_fo
  have hb_m_as := hq_rng m_as
  have hb_m_fd := hq_rng m_fd
  have hb_m_bc := hq_rng m_bc
  have hb_m_bg := hq_rng m_bg
  have hb_m_bs := hq_rng m_bs
  have hb_m_be := hq_rng m_be
  have hb_m_b0 := hq_rng m_b0
  have hb_m_b1 := hq_rng m_b1
  have hb_m_cm := hq_rng m_cm
  have hb_m_hc := hq_rng m_hc
  obtain ⟨b1, b2, b3, -⟩ := id hA
  have h1 := sp_h_1 (sp_k w j)
  refine lv_aload_n hx hb dX13_needName_0 rfl (lv_at hl 0 rfl) ?_
  refine hp_get (v := .int (m_hd)) hx hb hts hown hZ hc0 fl_X13_83 rfl dX13_needName_1 ?_
  refine lv_iconst (v := 1) hx hb dX13_needName_4 (by decide) ?_
  refine lv_icmp_ne (tgt := 15) hx hb dX13_needName_5 (by decide) (fun c4 => ?_) (fun c4 => ?_)
  · have c4 : ¬ (m_hd).toInt = (1 : Int) := fun h9 => c4 (hq_eqi.mpr h9)
    refine lv_aload_n hx hb dX13_needName_15 rfl (lv_at hl 0 rfl) ?_
    refine lv_iconst (v := 1) hx hb dX13_needName_16 (by decide) ?_
    have hl5 : (1 : Int32).toInt = 1 := by decide
    refine hp_callq (hp_runV (As := [.int (1)]) (rest := []) hx hb hml hown hts (y_wrong l D cs B G V n hP.1 (q) (mo) (m_tp) (m_sz) (m_fr) (m_bh) (m_hd) (m_ft) (m_fa) (m_le) (m_fo) (m_as) (m_fd) (m_bc) (m_bg) (m_bs) (m_be) (m_b0) (m_b1) (m_cm) (m_hc) (1)  hc0  hR hmo hmq) hZ hc0 cv_X13_107 rfl rfl ⟨Nat.le_of_ble_eq_true rfl, Nat.le_of_ble_eq_true rfl⟩ rfl hl.1 rfl (Nat.le_of_ble_eq_true rfl) dX13_needName_17 ⟨(Nat.le_of_ble_eq_true rfl), (Nat.le_of_ble_eq_true rfl)⟩) hZ (fun r9 V6 n7 _ _ hw8 hZ => ?_)
    obtain ⟨rfl, hq10, fr11, ho12, hp13⟩ := hw8
    have hP := hP.trans hq10 (fun _ h => Bool.noConfusion h)
    subst hp13
    refine W.eq (g2 := F0 m 20 ls [.ref (q + 19)]) rfl ?_
    have hl14 : (1 : Int32).toInt = 1 := by decide
    exact hq_athrow hx hb hnx hlocks hZ ⟨rfl, rfl, hP, (fun x8 hne0 => fr11 x8 hne0), 1, m_fr, ho12, ⟨by omega, by omega, by omega⟩⟩ dX13_needName_20
  · have c4 : (m_hd).toInt = (1 : Int) := hq_eqi.mp c4
    refine lv_aload_n hx hb dX13_needName_8 rfl (lv_at hl 0 rfl) ?_
    refine hp_calli (hp_runV (As := []) (rest := []) hx hb hml hown hts (y_isKeyword l D cs B G V n hP.1 (q) (mo) (w) (j) (m_tp) (m_sz) (m_fr) (m_bh) (m_hd) (m_ft) (m_fa) (m_le) (m_fo) (m_as) (m_fd) (m_bc) (m_bg) (m_bs) (m_be) (m_b0) (m_b1) (m_cm) (m_hc)  hc0 hp0 hR hmo hmq (by omega) hA) hZ hc0 cv_X13_146 rfl rfl ⟨Nat.le_of_ble_eq_true rfl, Nat.le_of_ble_eq_true rfl⟩ rfl hl.1 rfl (Nat.le_of_ble_eq_true rfl) dX13_needName_9 ⟨(Nat.le_of_ble_eq_true rfl), (Nat.le_of_ble_eq_true rfl)⟩) hZ (fun r18 V15 n16 _ _ hw17 hZ => ?_)
    obtain ⟨rfl, rfl, hp21⟩ := hw17
    have b22 := hq_rng r18
    refine lv_if_eq (tgt := 21) hx hb dX13_needName_12 (by decide) (fun c23 => ?_) (fun c23 => ?_)
    · have c23 : (r18).toInt = (0 : Int) := hq_eqi.mp c23
      have b24 : ¬ sp_k w j ≤ 16 := by have h9 := hp21; omega
      exact hq_vret hx hb hr hlocks hZ ⟨rfl, rfl, hP, (fun x8 hne0 => rfl), hc0, by omega⟩ dX13_needName_21
    · have c23 : ¬ (r18).toInt = (0 : Int) := fun h9 => c23 (hq_eqi.mpr h9)
      have b25 : sp_k w j ≤ 16 := by have h9 := hp21; omega
      refine lv_aload_n hx hb dX13_needName_15 rfl (lv_at hl 0 rfl) ?_
      refine lv_iconst (v := 1) hx hb dX13_needName_16 (by decide) ?_
      have hl26 : (1 : Int32).toInt = 1 := by decide
      refine hp_callq (hp_runV (As := [.int (1)]) (rest := []) hx hb hml hown hts (y_wrong l D cs B G V n hP.1 (q) (mo) (m_tp) (m_sz) (m_fr) (m_bh) (m_hd) (m_ft) (m_fa) (m_le) (m_fo) (m_as) (m_fd) (m_bc) (m_bg) (m_bs) (m_be) (m_b0) (m_b1) (m_cm) (m_hc) (1)  hc0  hR hmo hmq) hZ hc0 cv_X13_107 rfl rfl ⟨Nat.le_of_ble_eq_true rfl, Nat.le_of_ble_eq_true rfl⟩ rfl hl.1 rfl (Nat.le_of_ble_eq_true rfl) dX13_needName_17 ⟨(Nat.le_of_ble_eq_true rfl), (Nat.le_of_ble_eq_true rfl)⟩) hZ (fun r30 V27 n28 _ _ hw29 hZ => ?_)
      obtain ⟨rfl, hq31, fr32, ho33, hp34⟩ := hw29
      have hP := hP.trans hq31 (fun _ h => Bool.noConfusion h)
      subst hp34
      refine W.eq (g2 := F0 m 20 ls [.ref (q + 19)]) rfl ?_
      have hl35 : (1 : Int32).toInt = 1 := by decide
      exact hq_athrow hx hb hnx hlocks hZ ⟨rfl, rfl, hP, (fun x8 hne0 => fr32 x8 hne0), 1, m_fr, ho33, ⟨by omega, by omega, by omega⟩⟩ dX13_needName_20

set_option maxHeartbeats 4000000 in
set_option maxRecDepth 100000 in
theorem y_digit (l : Launch) (D : va_G) (cs : Nat → ClassId) (B : Nat) (G : hq_G) (V : hp_V) (n : Nat) (hI : hq_I cs G V) (q : Nat) (mo : Nat) (w : sp_W) (j : Nat) (d : Int) (k : Int32) (m_tp : Int32) (m_sz : Int32) (m_fr : Int32) (m_bh : Int32) (m_hd : Int32) (m_ft : Int32) (m_fa : Int32) (m_le : Int32) (m_fo : Int32) (m_as : Int32) (m_fd : Int32) (m_bc : Int32) (m_bg : Int32) (m_bs : Int32) (m_be : Int32) (m_b0 : Int32) (m_b1 : Int32) (m_cm : Int32) (m_hc : Int32) (hc0 : V (mo) = some (.inr (13, hm_o q (m_tp) (m_sz) (m_fr) (m_bh) (m_hd) (m_ft) (m_fa) (m_le) (m_fo) (m_as) (m_fd) (m_bc) (m_bg) (m_bs) (m_be) (m_b0) (m_b1) (m_cm) (m_hc)))) (hp0 : hm_TP cs V q w) (hR : hq_RT G q) (hmo : G mo = some (24, 0, 0, 0)) (hmq : mo < q) (hsz : m_sz.toInt = w.2) (hA : hm_A w j m_fr m_bh m_hd) (hd : k.toInt + 1 = d) (hd9 : 0 ≤ d ∧ d ≤ 20) : hq_M l yX13_digit cX13_digit 3 (some .int) ({ frames := 3, cells := 0, slots := 0, locals := 64 }) D cs B V n [.ref (mo), .int (k)] (hq_QX D cs B (fun v V' n' => ∃ r : Int32, v = some (.int r) ∧ n = n' ∧ hq_P cs G (fun _ => true) V V' ∧ (∀ x, x ≠ mo → V' x = V x) ∧ (∃ m_fr1 : Int32, ∃ m_bh1 : Int32, ∃ m_hd1 : Int32, V' (mo) = some (.inr (13, hm_o q (m_tp) (m_sz) (m_fr1) (m_bh1) (m_hd1) (m_ft) (m_fa) (m_le) (m_fo) (m_as) (m_fd) (m_bc) (m_bg) (m_bs) (m_be) (m_b0) (m_b1) (m_cm) (m_hc))) ∧ ((sp_num w d j).1 = 0 ∧ hm_A w (sp_num w d j).2.1 m_fr1 m_bh1 m_hd1 ∧ r.toInt = (sp_num w d j).2.2) ∧ (0 ≤ r.toInt ∧ r.toInt < d))) (fun x V' n' => x = q + 19 ∧ n = n' ∧ hq_P cs G (fun _ => true) V V' ∧ (∀ x, x ≠ mo → V' x = V x) ∧ (∃ m_fr1 : Int32, ∃ m_bh1 : Int32, ∃ m_hd1 : Int32, ∃ m_ft1 : Int32, ∃ m_fa1 : Int32, V' (mo) = some (.inr (13, hm_o q (m_tp) (m_sz) (m_fr1) (m_bh1) (m_hd1) (m_ft1) (m_fa1) (m_le) (m_fo) (m_as) (m_fd) (m_bc) (m_bg) (m_bs) (m_be) (m_b0) (m_b1) (m_cm) (m_hc))) ∧ (hx_F w (sp_num w d j).1 (sp_num w d j).2.1 m_ft1 m_fa1)))) 0 0 := by
  refine hq_walk (R0 := RX13) (by decide) rfl ?_ (Nat.le_of_ble_eq_true rfl)
  intro p e s m below meth c ls hx hb hr hts hown hlocks hin hml hnx hZ hl
  have hP : hq_P cs G (fun _ => true) V V := hq_P.rf hI
  have hl : lv_has ls 3 [(0, .ref (mo)), (1, .int (k))] := hl
  have hb_k := hq_rng k
  have hb_m_tp := hq_rng m_tp
  have hb_m_sz := hq_rng m_sz
  have hb_m_fr := hq_rng m_fr
  have hb_m_bh := hq_rng m_bh
  have hb_m_hd := hq_rng m_hd
  have hb_m_ft := hq_rng m_ft
  have hb_m_fa := hq_rng m_fa
  have hb_m_le := hq_rng m_le
  have hb_m_fo := hq_rng m_fo
  have hb_m_as := hq_rng m_as
  have hb_m_fd := hq_rng m_fd
  have hb_m_bc := hq_rng m_bc
  have hb_m_bg := hq_rng m_bg
  have hb_m_bs := hq_rng m_bs
  have hb_m_be := hq_rng m_be
  have hb_m_b0 := hq_rng m_b0
  have hb_m_b1 := hq_rng m_b1
  have hb_m_cm := hq_rng m_cm
  have hb_m_hc := hq_rng m_hc
  obtain ⟨b1, b2, b3, -⟩ := id hA
  obtain ⟨tg, htg, hok, hz3⟩ := id hp0
  have hz2 := hok.1
  refine lv_aload_n hx hb dX13_digit_0 rfl (lv_at hl 0 rfl) ?_
  refine hp_get (v := .int (m_hd)) hx hb hts hown hZ hc0 fl_X13_83 rfl dX13_digit_1 ?_
  refine lv_iconst (v := 2) hx hb dX13_digit_4 (by decide) ?_
  refine lv_icmp_eq (tgt := 14) hx hb dX13_digit_5 (by decide) (fun c4 => ?_) (fun c4 => ?_)
  · have c4 : (m_hd).toInt = (2 : Int) := hq_eqi.mp c4
    have h2b := sp_h_2 (sp_k w j)
    refine lv_aload_n hx hb dX13_digit_14 rfl (lv_at hl 0 rfl) ?_
    refine hp_get (v := .ref (q + 20)) hx hb hts hown hZ hc0 fl_X13_73 rfl dX13_digit_15 ?_
    refine lv_aload_n hx hb dX13_digit_18 rfl (lv_at hl 0 rfl) ?_
    refine hp_get (v := .int (m_fr)) hx hb hts hown hZ hc0 fl_X13_60 rfl dX13_digit_19 ?_
    have h2a := sp_h_2 (sp_k w j)
    have hti := sp_tok_in (w := w) (j := j) hA.1 (by omega)
    have htk := sp_tok (w := w) (j := j) hA.1
    refine hp_bald hx hb hZ htg (hq_in (by omega) (by omega)) dX13_digit_22 ?_
    refine lv_topi (fun y5 ey6 => ?_)
    have b7 := hq_rng y5
    have h2 := sp_h_2 (sp_k w j)
    have hn9 := sp_tok_num (w := w) (j := j) (by omega)
    have hgw := hx_gw hz3 (i := m_fr) (by omega) (by omega)
    rw [← ey6, show m_fr.toInt = sp_s w j by omega] at hgw
    have hdd : sp_d w j = w.1 (sp_s w j) - 48 := rfl
    refine lv_bipush (v := 48) hx hb dX13_digit_23 (by decide) ?_
    refine lv_isub hx hb dX13_digit_25 ?_
    refine lv_topi (fun y8 ey9 => ?_)
    obtain ⟨k10, hk11, b12, b13⟩ := hq_sub (y5) (48)
    rw [← ey9] at hk11 b12 b13
    have hk11 : (y8).toInt = (y5).toInt - (48 : Int) + k10 * 4294967296 := hk11
    obtain rfl : k10 = 0 := by omega
    refine lv_istore_n (lv' := [(2, .int (y8)), (0, .ref (mo)), (1, .int (k))]) hx hb dX13_digit_26 rfl hl (by decide) rfl (fun ls hl => ?_)
    refine lv_iload_n hx hb dX13_digit_27 rfl (lv_at hl 0 rfl) ?_
    refine lv_iload_n hx hb dX13_digit_28 rfl (lv_at hl 2 rfl) ?_
    refine lv_icmp_le (tgt := 38) hx hb dX13_digit_29 (by decide) (fun c14 => ?_) (fun c14 => ?_)
    · have c14 : (y8).toInt ≤ (k).toInt := hq_lei.mp c14
      refine lv_aload_n hx hb dX13_digit_38 rfl (lv_at hl 1 rfl) ?_
      refine hp_callv (hp_runV (As := []) (rest := []) hx hb hml hown hts (y_next l D cs B G V n hP.1 (q) (mo) (w) (j) (m_tp) (m_sz) (m_fr) (m_bh) (m_hd) (m_ft) (m_fa) (m_le) (m_fo) (m_as) (m_fd) (m_bc) (m_bg) (m_bs) (m_be) (m_b0) (m_b1) (m_cm) (m_hc)  hc0 hp0 hR hmo hmq (by omega) hA (by omega)) hZ hc0 cv_X13_111 rfl rfl ⟨Nat.le_of_ble_eq_true rfl, Nat.le_of_ble_eq_true rfl⟩ rfl hl.1 rfl (Nat.le_of_ble_eq_true rfl) dX13_digit_39 ⟨(Nat.le_of_ble_eq_true rfl), (Nat.le_of_ble_eq_true rfl)⟩) hZ (fun V15 n16 _ _ hw17 hZ => ?_)
      obtain ⟨rfl, hq19, fr20, z21, z22, z23, ho24, hp25, hp26⟩ := hw17
      have b27 := hq_rng z21
      have b28 := hq_rng z22
      have b29 := hq_rng z23
      have hP := hP.trans hq19 (fun _ h => Bool.noConfusion h)
      obtain ⟨b30, b31, b32, -⟩ := id hp25
      refine lv_iload_n hx hb dX13_digit_42 rfl (lv_at hl 0 rfl) ?_
      exact hq_iret hx hb hr hlocks hZ ⟨_, rfl, rfl, hP, (fun x8 hne0 => fr20 x8 hne0), z21, z22, z23, ho24, (by unfold sp_num; (repeat (first | (rw [if_pos]; rotate_left; omega) | (rw [if_neg]; rotate_left; omega))); (try dsimp only); exact ⟨by first | rfl | omega, hp25, by omega⟩), by omega⟩ dX13_digit_43
    · have c14 : ¬ (y8).toInt ≤ (k).toInt := fun h9 => c14 (hq_lei.mpr h9)
      refine lv_aload_n hx hb dX13_digit_32 rfl (lv_at hl 1 rfl) ?_
      refine lv_iconst (v := 3) hx hb dX13_digit_33 (by decide) ?_
      have hl33 : (3 : Int32).toInt = 3 := by decide
      refine hp_callq (hp_runV (As := [.int (3)]) (rest := []) hx hb hml hown hts (y_wrong l D cs B G V n hP.1 (q) (mo) (m_tp) (m_sz) (m_fr) (m_bh) (m_hd) (m_ft) (m_fa) (m_le) (m_fo) (m_as) (m_fd) (m_bc) (m_bg) (m_bs) (m_be) (m_b0) (m_b1) (m_cm) (m_hc) (3)  hc0  hR hmo hmq) hZ hc0 cv_X13_107 rfl rfl ⟨Nat.le_of_ble_eq_true rfl, Nat.le_of_ble_eq_true rfl⟩ rfl hl.1 rfl (Nat.le_of_ble_eq_true rfl) dX13_digit_34 ⟨(Nat.le_of_ble_eq_true rfl), (Nat.le_of_ble_eq_true rfl)⟩) hZ (fun r37 V34 n35 _ _ hw36 hZ => ?_)
      obtain ⟨rfl, hq38, fr39, ho40, hp41⟩ := hw36
      have hP := hP.trans hq38 (fun _ h => Bool.noConfusion h)
      subst hp41
      refine W.eq (g2 := F0 m 37 ls [.ref (q + 19)]) rfl ?_
      have hl42 : (3 : Int32).toInt = 3 := by decide
      exact hq_athrow hx hb hnx hlocks hZ ⟨rfl, rfl, hP, (fun x8 hne0 => fr39 x8 hne0), m_fr, m_bh, m_hd, 3, m_fr, ho40, (by unfold sp_num; (repeat (first | (rw [if_pos]; rotate_left; omega) | (rw [if_neg]; rotate_left; omega))); (try dsimp only); exact ⟨by omega, by omega, by omega⟩)⟩ dX13_digit_37
  · have c4 : ¬ (m_hd).toInt = (2 : Int) := fun h9 => c4 (hq_eqi.mpr h9)
    have h2b := sp_h_2 (sp_k w j)
    refine lv_aload_n hx hb dX13_digit_8 rfl (lv_at hl 0 rfl) ?_
    refine lv_iconst (v := 1) hx hb dX13_digit_9 (by decide) ?_
    have hl43 : (1 : Int32).toInt = 1 := by decide
    refine hp_callq (hp_runV (As := [.int (1)]) (rest := []) hx hb hml hown hts (y_wrong l D cs B G V n hP.1 (q) (mo) (m_tp) (m_sz) (m_fr) (m_bh) (m_hd) (m_ft) (m_fa) (m_le) (m_fo) (m_as) (m_fd) (m_bc) (m_bg) (m_bs) (m_be) (m_b0) (m_b1) (m_cm) (m_hc) (1)  hc0  hR hmo hmq) hZ hc0 cv_X13_107 rfl rfl ⟨Nat.le_of_ble_eq_true rfl, Nat.le_of_ble_eq_true rfl⟩ rfl hl.1 rfl (Nat.le_of_ble_eq_true rfl) dX13_digit_10 ⟨(Nat.le_of_ble_eq_true rfl), (Nat.le_of_ble_eq_true rfl)⟩) hZ (fun r47 V44 n45 _ _ hw46 hZ => ?_)
    obtain ⟨rfl, hq48, fr49, ho50, hp51⟩ := hw46
    have hP := hP.trans hq48 (fun _ h => Bool.noConfusion h)
    subst hp51
    refine W.eq (g2 := F0 m 13 ls [.ref (q + 19)]) rfl ?_
    have hl52 : (1 : Int32).toInt = 1 := by decide
    exact hq_athrow hx hb hnx hlocks hZ ⟨rfl, rfl, hP, (fun x8 hne0 => fr49 x8 hne0), m_fr, m_bh, m_hd, 1, m_fr, ho50, (by unfold sp_num; (repeat (first | (rw [if_pos]; rotate_left; omega) | (rw [if_neg]; rotate_left; omega))); (try dsimp only); exact ⟨by omega, by omega, by omega⟩)⟩ dX13_digit_13

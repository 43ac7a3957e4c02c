set_option maxHeartbeats 4000000 in
set_option maxRecDepth 100000 in
theorem y_isFigure (l : Launch) (D : va_G) (cs : Nat → ClassId) (B : Nat) (G : hq_G) (V : hp_V) (n : Nat) (hI : hq_I cs G V) (k : Int32) : hp_M l yX13_isFigure cX13_isFigure 1 (some .boolean) ({ frames := 1, cells := 0, slots := 0, locals := 21 }) D cs B V n [.int (k)] (hp_QI D cs B (fun r V' n' => n = n' ∧ V = V' ∧ ((r.toInt = 1 ∧ 48 ≤ k.toInt ∧ k.toInt ≤ 57) ∨ (r.toInt = 0 ∧ ¬ (48 ≤ k.toInt ∧ k.toInt ≤ 57))))) 0 0 := by
  refine hp_walk (R0 := RX13) (by decide) rfl ?_ (Nat.le_of_ble_eq_true rfl)
  intro p e s m below meth c ls hx hb hr hts hown hlocks hin hml hZ hl
  have hP : hq_I cs G V := hI
  have hl : lv_has ls 1 [(0, .int (k))] := hl
  have hb_k := hq_rng k
  refine lv_iload_n hx hb dX13_isFigure_0 rfl (lv_at hl 0 rfl) ?_
  refine lv_bipush (v := 48) hx hb dX13_isFigure_1 (by decide) ?_
  refine lv_icmp_lt (tgt := 16) hx hb dX13_isFigure_3 (by decide) (fun c1 => ?_) (fun c1 => ?_)
  · have c1 : (k).toInt < (48 : Int) := hq_lti.mp c1
    refine lv_iconst (v := 0) hx hb dX13_isFigure_16 (by decide) ?_
    have hl2 : (0 : Int32).toInt = 0 := by decide
    exact hp_zret hx hb hr rfl hlocks hZ ⟨rfl, rfl, (by omega)⟩ dX13_isFigure_17
  · have c1 : ¬ (k).toInt < (48 : Int) := fun h9 => c1 (hq_lti.mpr h9)
    refine lv_iload_n hx hb dX13_isFigure_6 rfl (lv_at hl 0 rfl) ?_
    refine lv_bipush (v := 57) hx hb dX13_isFigure_7 (by decide) ?_
    refine lv_icmp_gt (tgt := 16) hx hb dX13_isFigure_9 (by decide) (fun c3 => ?_) (fun c3 => ?_)
    · have c3 : (57 : Int) < (k).toInt := hq_lti.mp c3
      refine lv_iconst (v := 0) hx hb dX13_isFigure_16 (by decide) ?_
      have hl4 : (0 : Int32).toInt = 0 := by decide
      exact hp_zret hx hb hr rfl hlocks hZ ⟨rfl, rfl, (by omega)⟩ dX13_isFigure_17
    · have c3 : ¬ (57 : Int) < (k).toInt := fun h9 => c3 (hq_lti.mpr h9)
      refine lv_iconst (v := 1) hx hb dX13_isFigure_12 (by decide) ?_
      refine lv_goto (tgt := 17) hx hb dX13_isFigure_13 (by decide) ?_
      have hl5 : (1 : Int32).toInt = 1 := by decide
      exact hp_zret hx hb hr rfl hlocks hZ ⟨rfl, rfl, (by omega)⟩ dX13_isFigure_17

set_option maxHeartbeats 4000000 in
set_option maxRecDepth 100000 in
theorem y_isSmall (l : Launch) (D : va_G) (cs : Nat → ClassId) (B : Nat) (G : hq_G) (V : hp_V) (n : Nat) (hI : hq_I cs G V) (k : Int32) : hp_M l yX13_isSmall cX13_isSmall 1 (some .boolean) ({ frames := 1, cells := 0, slots := 0, locals := 21 }) D cs B V n [.int (k)] (hp_QI D cs B (fun r V' n' => n = n' ∧ V = V' ∧ ((r.toInt = 1 ∧ 97 ≤ k.toInt ∧ k.toInt ≤ 122) ∨ (r.toInt = 0 ∧ ¬ (97 ≤ k.toInt ∧ k.toInt ≤ 122))))) 0 0 := by
  refine hp_walk (R0 := RX13) (by decide) rfl ?_ (Nat.le_of_ble_eq_true rfl)
  intro p e s m below meth c ls hx hb hr hts hown hlocks hin hml hZ hl
  have hP : hq_I cs G V := hI
  have hl : lv_has ls 1 [(0, .int (k))] := hl
  have hb_k := hq_rng k
  refine lv_iload_n hx hb dX13_isSmall_0 rfl (lv_at hl 0 rfl) ?_
  refine lv_bipush (v := 97) hx hb dX13_isSmall_1 (by decide) ?_
  refine lv_icmp_lt (tgt := 16) hx hb dX13_isSmall_3 (by decide) (fun c1 => ?_) (fun c1 => ?_)
  · have c1 : (k).toInt < (97 : Int) := hq_lti.mp c1
    refine lv_iconst (v := 0) hx hb dX13_isSmall_16 (by decide) ?_
    have hl2 : (0 : Int32).toInt = 0 := by decide
    exact hp_zret hx hb hr rfl hlocks hZ ⟨rfl, rfl, (by omega)⟩ dX13_isSmall_17
  · have c1 : ¬ (k).toInt < (97 : Int) := fun h9 => c1 (hq_lti.mpr h9)
    refine lv_iload_n hx hb dX13_isSmall_6 rfl (lv_at hl 0 rfl) ?_
    refine lv_bipush (v := 122) hx hb dX13_isSmall_7 (by decide) ?_
    refine lv_icmp_gt (tgt := 16) hx hb dX13_isSmall_9 (by decide) (fun c3 => ?_) (fun c3 => ?_)
    · have c3 : (122 : Int) < (k).toInt := hq_lti.mp c3
      refine lv_iconst (v := 0) hx hb dX13_isSmall_16 (by decide) ?_
      have hl4 : (0 : Int32).toInt = 0 := by decide
      exact hp_zret hx hb hr rfl hlocks hZ ⟨rfl, rfl, (by omega)⟩ dX13_isSmall_17
    · have c3 : ¬ (122 : Int) < (k).toInt := fun h9 => c3 (hq_lti.mpr h9)
      refine lv_iconst (v := 1) hx hb dX13_isSmall_12 (by decide) ?_
      refine lv_goto (tgt := 17) hx hb dX13_isSmall_13 (by decide) ?_
      have hl5 : (1 : Int32).toInt = 1 := by decide
      exact hp_zret hx hb hr rfl hlocks hZ ⟨rfl, rfl, (by omega)⟩ dX13_isSmall_17

set_option maxHeartbeats 4000000 in
set_option maxRecDepth 100000 in
theorem y_byteAt (l : Launch) (D : va_G) (cs : Nat → ClassId) (B : Nat) (G : hq_G) (V : hp_V) (n : Nat) (hI : hq_I cs G V) (q : Nat) (mo : Nat) (w : sp_W) (m_tp : Int32) (m_sz : Int32) (m_fr : Int32) (m_bh : Int32) (m_hd : Int32) (m_ft : Int32) (m_fa : Int32) (m_le : Int32) (m_fo : Int32) (m_as : Int32) (m_fd : Int32) (m_bc : Int32) (m_bg : Int32) (m_bs : Int32) (m_be : Int32) (m_b0 : Int32) (m_b1 : Int32) (m_cm : Int32) (m_hc : Int32) (k : Int32) (hc0 : V (mo) = some (.inr (13, hm_o q (m_tp) (m_sz) (m_fr) (m_bh) (m_hd) (m_ft) (m_fa) (m_le) (m_fo) (m_as) (m_fd) (m_bc) (m_bg) (m_bs) (m_be) (m_b0) (m_b1) (m_cm) (m_hc)))) (hp0 : hm_TP cs V q w) (hR : hq_RT G q) (hmo : G mo = some (24, 0, 0, 0)) (hsz : m_sz.toInt = w.2) (hk : 0 ≤ k.toInt) : hp_M l yX13_byteAt cX13_byteAt 2 (some .int) ({ frames := 1, cells := 0, slots := 0, locals := 21 }) D cs B V n [.ref (mo), .int (k)] (hp_QI D cs B (fun r V' n' => n = n' ∧ V = V' ∧ ((k.toInt < w.2 ∧ ((0 ≤ w.1 k.toInt ∧ r.toInt = w.1 k.toInt) ∨ (w.1 k.toInt < 0 ∧ 128 ≤ r.toInt ∧ r.toInt = w.1 k.toInt + 256))) ∨ (¬ k.toInt < w.2 ∧ r.toInt = 0)))) 0 0 := by
  refine hp_walk (R0 := RX13) (by decide) rfl ?_ (Nat.le_of_ble_eq_true rfl)
  intro p e s m below meth c ls hx hb hr hts hown hlocks hin hml hZ hl
  have hP : hq_I cs G V := hI
  have hl : lv_has ls 2 [(0, .ref (mo)), (1, .int (k))] := hl
  have hb_m_tp := hq_rng m_tp
  have hb_m_sz := hq_rng m_sz
  have hb_m_fr := hq_rng m_fr
  have hb_m_bh := hq_rng m_bh
  have hb_m_hd := hq_rng m_hd
  have hb_m_ft := hq_rng m_ft
  have hb_m_fa := hq_rng m_fa
  have hb_m_le := hq_rng m_le
  have hb_m_fo := hq_rng m_fo
  have hb_m_as := hq_rng m_as
  have hb_m_fd := hq_rng m_fd
  have hb_m_bc := hq_rng m_bc
  have hb_m_bg := hq_rng m_bg
  have hb_m_bs := hq_rng m_bs
  have hb_m_be := hq_rng m_be
  have hb_m_b0 := hq_rng m_b0
  have hb_m_b1 := hq_rng m_b1
  have hb_m_cm := hq_rng m_cm
  have hb_m_hc := hq_rng m_hc
  have hb_k := hq_rng k
  obtain ⟨tg, htg, hok, hz3⟩ := id hp0
  have hz2 := hok.1
  refine lv_iload_n hx hb dX13_byteAt_0 rfl (lv_at hl 1 rfl) ?_
  refine lv_aload_n hx hb dX13_byteAt_1 rfl (lv_at hl 0 rfl) ?_
  refine hp_get (v := .int (m_sz)) hx hb hts hown hZ hc0 fl_X13_70 rfl dX13_byteAt_2 ?_
  refine lv_icmp_ge (tgt := 21) hx hb dX13_byteAt_5 (by decide) (fun c1 => ?_) (fun c1 => ?_)
  · have c1 : (m_sz).toInt ≤ (k).toInt := hq_lei.mp c1
    refine lv_iconst (v := 0) hx hb dX13_byteAt_21 (by decide) ?_
    have hl2 : (0 : Int32).toInt = 0 := by decide
    exact hp_iret hx hb hr hlocks hZ ⟨rfl, rfl, (by omega)⟩ dX13_byteAt_22
  · have c1 : ¬ (m_sz).toInt ≤ (k).toInt := fun h9 => c1 (hq_lei.mpr h9)
    refine lv_aload_n hx hb dX13_byteAt_8 rfl (lv_at hl 0 rfl) ?_
    refine hp_get (v := .ref (q + 20)) hx hb hts hown hZ hc0 fl_X13_73 rfl dX13_byteAt_9 ?_
    refine lv_iload_n hx hb dX13_byteAt_12 rfl (lv_at hl 1 rfl) ?_
    refine hp_bald hx hb hZ htg (hq_in (by omega) (by omega)) dX13_byteAt_13 ?_
    refine lv_topi (fun y3 ey4 => ?_)
    have b5 := hq_rng y3
    have hgw := hx_gw hz3 (i := k) (by omega) (by omega)
    rw [← ey4] at hgw
    have hrg := hok.2 k.toInt (by omega) (by omega)
    refine lv_sipush (v := 255) hx hb dX13_byteAt_14 (by decide) ?_
    refine lv_iand hx hb dX13_byteAt_17 ?_
    refine lv_topi (fun y6 ey7 => ?_)
    have b8 := hx_and255 y3 (by omega)
    rw [← ey7] at b8
    refine lv_goto (tgt := 22) hx hb dX13_byteAt_18 (by decide) ?_
    exact hp_iret hx hb hr hlocks hZ ⟨rfl, rfl, (by omega)⟩ dX13_byteAt_22

set_option maxHeartbeats 4000000 in
set_option maxRecDepth 100000 in
theorem y_scan (l : Launch) (D : va_G) (cs : Nat → ClassId) (B : Nat) (G : hq_G) (V : hp_V) (n : Nat) (hI : hq_I cs G V) (q : Nat) (mo : Nat) (w : sp_W) (j : Nat) (m_tp : Int32) (m_sz : Int32) (m_fr : Int32) (m_bh : Int32) (m_hd : Int32) (m_ft : Int32) (m_fa : Int32) (m_le : Int32) (m_fo : Int32) (m_as : Int32) (m_fd : Int32) (m_bc : Int32) (m_bg : Int32) (m_bs : Int32) (m_be : Int32) (m_b0 : Int32) (m_b1 : Int32) (m_cm : Int32) (m_hc : Int32) (hc0 : V (mo) = some (.inr (13, hm_o q (m_tp) (m_sz) (m_fr) (m_bh) (m_hd) (m_ft) (m_fa) (m_le) (m_fo) (m_as) (m_fd) (m_bc) (m_bg) (m_bs) (m_be) (m_b0) (m_b1) (m_cm) (m_hc)))) (hp0 : hm_TP cs V q w) (hR : hq_RT G q) (hmo : G mo = some (24, 0, 0, 0)) (hsz : m_sz.toInt = w.2) (hbh : m_bh.toInt = sp_pos w j) (hpos : 0 ≤ sp_pos w j ∧ sp_pos w j ≤ w.2) : hp_M l yX13_scan cX13_scan 3 none ({ frames := 2, cells := 0, slots := 0, locals := 42 }) D cs B V n [.ref (mo)] (hp_QV D cs B (fun V' n' => n = n' ∧ hq_P cs G (fun _ => true) V V' ∧ (∀ x, x ≠ mo → V' x = V x) ∧ (∃ m_fr1 : Int32, ∃ m_bh1 : Int32, ∃ m_hd1 : Int32, V' (mo) = some (.inr (13, hm_o q (m_tp) (m_sz) (m_fr1) (m_bh1) (m_hd1) (m_ft) (m_fa) (m_le) (m_fo) (m_as) (m_fd) (m_bc) (m_bg) (m_bs) (m_be) (m_b0) (m_b1) (m_cm) (m_hc))) ∧ (hm_A w j m_fr1 m_bh1 m_hd1) ∧ (0 ≤ m_bh1.toInt ∧ m_bh1.toInt ≤ w.2 + 1)))) 0 0 := by
  refine hp_walk (R0 := RX13) (by decide) rfl ?_ (Nat.le_of_ble_eq_true rfl)
  intro p e s m below meth c ls hx hb hr hts hown hlocks hin hml hZ hl
  have hP : hq_P cs G (fun _ => true) V V := hq_P.rf hI
  have hl : lv_has ls 3 [(0, .ref (mo))] := hl
  have hb_m_tp := hq_rng m_tp
  have hb_m_sz := hq_rng m_sz
  have hb_m_fr := hq_rng m_fr
  have hb_m_bh := hq_rng m_bh
  have hb_m_hd := hq_rng m_hd
  have hb_m_ft := hq_rng m_ft
  have hb_m_fa := hq_rng m_fa
  have hb_m_le := hq_rng m_le
  have hb_m_fo := hq_rng m_fo
  have hb_m_as := hq_rng m_as
  have hb_m_fd := hq_rng m_fd
  have hb_m_bc := hq_rng m_bc
  have hb_m_bg := hq_rng m_bg
  have hb_m_bs := hq_rng m_bs
  have hb_m_be := hq_rng m_be
  have hb_m_b0 := hq_rng m_b0
  have hb_m_b1 := hq_rng m_b1
  have hb_m_cm := hq_rng m_cm
  have hb_m_hc := hq_rng m_hc
  obtain ⟨tg, htg, hok, hz3⟩ := id hp0
  have hz2 := hok.1
  suffices lp0 : ∀ (k9 : Nat) (V9 : hp_V) (H9 : Heap) (locs9 : List Loc) (ls : Array Slot)  (bh9 : Int32), (5000 - bh9.toInt).toNat = k9 → hp_Z D cs B s V9 H9 n locs9 → hq_P cs G (fun _ => true) V V9 → V9 (mo) = some (.inr (13, hm_o q (m_tp) (m_sz) (m_fr) (bh9) (m_hd) (m_ft) (m_fa) (m_le) (m_fo) (m_as) (m_fd) (m_bc) (m_bg) (m_bs) (m_be) (m_b0) (m_b1) (m_cm) (m_hc))) → (∀ x, x ≠ mo → V9 x = V x) → hm_TP cs V9 q w → sp_pos w j ≤ bh9.toInt → bh9.toInt ≤ w.2 → (sp_run (sp_ws w.1) w.2 bh9.toInt = sp_run (sp_ws w.1) w.2 (sp_pos w j)) → lv_has ls 3 [(0, .ref (mo))] → W p l e ({ frames := 2, cells := 0, slots := 0, locals := 42 }) s m ([.ref (mo)] : List Value).toArray below meth c H9 locs9 0 0 (MQ below (hp_QV D cs B (fun V' n' => n = n' ∧ hq_P cs G (fun _ => true) V V' ∧ (∀ x, x ≠ mo → V' x = V x) ∧ (∃ m_fr1 : Int32, ∃ m_bh1 : Int32, ∃ m_hd1 : Int32, V' (mo) = some (.inr (13, hm_o q (m_tp) (m_sz) (m_fr1) (m_bh1) (m_hd1) (m_ft) (m_fa) (m_le) (m_fo) (m_as) (m_fd) (m_bc) (m_bg) (m_bs) (m_be) (m_b0) (m_b1) (m_cm) (m_hc))) ∧ (hm_A w j m_fr1 m_bh1 m_hd1) ∧ (0 ≤ m_bh1.toInt ∧ m_bh1.toInt ≤ w.2 + 1)))) ([.ref (mo)] : List Value).toArray s 0 0 (hp_F B)) (F0 m 0 ls []) from lp0 _ _ _ _ ls  (m_bh) rfl hZ hP hc0 (fun x8 hne0 => rfl) hp0 (by omega) (by omega) (by rw [hbh]) (lv_sub hl [0] rfl)
  intro k9
  induction k9 using Nat.strongRecOn with
  | _ k9 ih0 =>
    intro V9 H9 locs9 ls   bh9 hk0 hZ hP ho1 fr0 pk2 hv3 hv4 hrun hl
    have hb_bh9 := hq_rng bh9
    refine lv_aload_n hx hb dX13_scan_0 rfl (lv_at hl 0 rfl) ?_
    refine hp_get (v := .int (bh9)) hx hb hts hown hZ ho1 fl_X13_76 rfl dX13_scan_1 ?_
    refine lv_aload_n hx hb dX13_scan_4 rfl (lv_at hl 0 rfl) ?_
    refine hp_get (v := .int (m_sz)) hx hb hts hown hZ ho1 fl_X13_70 rfl dX13_scan_5 ?_
    refine lv_icmp_ge (tgt := 52) hx hb dX13_scan_8 (by decide) (fun c5 => ?_) (fun c5 => ?_)
    · have c5 : (m_sz).toInt ≤ (bh9).toInt := hq_lei.mp c5
      have hS : sp_S w (sp_pos w j) = bh9.toInt := hrun.symm.trans (sp_run_stop (sp_ws_f (by omega)))
      have hbS : w.1 (sp_S w (sp_pos w j)) = w.1 bh9.toInt := by rw [hS]
      have hS2 := sp_S_ge w (sp_pos w j)
      refine lv_aload_n hx hb dX13_scan_52 rfl (lv_at hl 0 rfl) ?_
      refine lv_aload_n hx hb dX13_scan_53 rfl (lv_at hl 0 rfl) ?_
      refine hp_get (v := .int (bh9)) hx hb hts hown hZ ho1 fl_X13_76 rfl dX13_scan_54 ?_
      refine hp_put hx hb hts hown hZ ho1 fp_X13_60 rfl rfl (Nat.le_of_ble_eq_true rfl) dX13_scan_57 (fun V6 _ _ e7 o8 hZ => ?_)
      have e7 : V6 (mo) = some (.inr (13, hm_o q (m_tp) (m_sz) (bh9) (bh9) (m_hd) (m_ft) (m_fa) (m_le) (m_fo) (m_as) (m_fd) (m_bc) (m_bg) (m_bs) (m_be) (m_b0) (m_b1) (m_cm) (m_hc))) := e7
      have hP := hP.put hmo e7 o8 (trivial) rfl
      refine lv_aload_n hx hb dX13_scan_60 rfl (lv_at hl 0 rfl) ?_
      refine lv_aload_n hx hb dX13_scan_61 rfl (lv_at hl 0 rfl) ?_
      refine hp_get (v := .int (bh9)) hx hb hts hown hZ e7 fl_X13_60 rfl dX13_scan_62 ?_
      have pk9 := pk2.keep (o8 (q + 20) (hq_tne (hr_20 hR) hmo (by simp)))
      refine hp_calli (hp_runV (As := [.int (bh9)]) (rest := []) hx hb hml hown hts (y_byteAt l D cs B G V6 n hP.1 (q) (mo) (w) (m_tp) (m_sz) (bh9) (bh9) (m_hd) (m_ft) (m_fa) (m_le) (m_fo) (m_as) (m_fd) (m_bc) (m_bg) (m_bs) (m_be) (m_b0) (m_b1) (m_cm) (m_hc) (bh9)  e7 pk9 hR hmo (by omega) (by omega)) hZ e7 cv_X13_79 rfl rfl ⟨Nat.le_of_ble_eq_true rfl, Nat.le_of_ble_eq_true rfl⟩ rfl hl.1 rfl (Nat.le_of_ble_eq_true rfl) dX13_scan_65 ⟨(Nat.le_of_ble_eq_true rfl), (Nat.le_of_ble_eq_true rfl)⟩) hZ (fun r13 V10 n11 _ _ hw12 hZ => ?_)
      obtain ⟨rfl, rfl, hp16⟩ := hw12
      have b17 := hq_rng r13
      refine lv_istore_n (lv' := [(1, .int (r13)), (0, .ref (mo))]) hx hb dX13_scan_68 rfl hl (by decide) rfl (fun ls hl => ?_)
      refine lv_aload_n hx hb dX13_scan_69 rfl (lv_at hl 1 rfl) ?_
      refine hp_get (v := .int (bh9)) hx hb hts hown hZ e7 fl_X13_60 rfl dX13_scan_70 ?_
      refine lv_aload_n hx hb dX13_scan_73 rfl (lv_at hl 1 rfl) ?_
      refine hp_get (v := .int (m_sz)) hx hb hts hown hZ e7 fl_X13_70 rfl dX13_scan_74 ?_
      refine lv_icmp_ne (tgt := 86) hx hb dX13_scan_77 (by decide) (fun c18 => ?_) (fun c18 => ?_)
      · have c18 : ¬ (bh9).toInt = (m_sz).toInt := fun h9 => c18 (hq_eqi.mpr h9)
        refine lv_aload_n hx hb dX13_scan_86 rfl (lv_at hl 1 rfl) ?_
        refine lv_dup hx hb dX13_scan_87 rfl ?_
        refine hp_get (v := .int (bh9)) hx hb hts hown hZ e7 fl_X13_76 rfl dX13_scan_88 ?_
        refine lv_iconst (v := 1) hx hb dX13_scan_91 (by decide) ?_
        refine lv_iadd hx hb dX13_scan_92 ?_
        refine lv_topi (fun y19 ey20 => ?_)
        obtain ⟨k21, hk22, b23, b24⟩ := hq_add (bh9) (1)
        rw [← ey20] at hk22 b23 b24
        have hk22 : (y19).toInt = (bh9).toInt + (1 : Int) + k21 * 4294967296 := hk22
        obtain rfl : k21 = 0 := by omega
        refine hp_put hx hb hts hown hZ e7 fp_X13_76 rfl rfl (Nat.le_of_ble_eq_true rfl) dX13_scan_93 (fun V25 _ _ e26 o27 hZ => ?_)
        have e26 : V25 (mo) = some (.inr (13, hm_o q (m_tp) (m_sz) (bh9) (y19) (m_hd) (m_ft) (m_fa) (m_le) (m_fo) (m_as) (m_fd) (m_bc) (m_bg) (m_bs) (m_be) (m_b0) (m_b1) (m_cm) (m_hc))) := e26
        have hP := hP.put hmo e26 o27 (trivial) rfl
        refine lv_iload_n hx hb dX13_scan_96 rfl (lv_at hl 0 rfl) ?_
        refine hp_calli (hp_runS (As := [.int (r13)]) (rest := []) hx hb hml hown hts (y_isSmall l D cs B G V25 n hP.1 (r13)    ) hZ cv_X13_86 rfl rfl ⟨Nat.le_of_ble_eq_true rfl, Nat.le_of_ble_eq_true rfl⟩ rfl hl.1 rfl (Nat.le_of_ble_eq_true rfl) dX13_scan_97 ⟨(Nat.le_of_ble_eq_true rfl), (Nat.le_of_ble_eq_true rfl)⟩) hZ (fun r31 V28 n29 _ _ hw30 hZ => ?_)
        obtain ⟨rfl, rfl, hp34⟩ := hw30
        have b35 := hq_rng r31
        refine lv_if_eq (tgt := 156) hx hb dX13_scan_100 (by decide) (fun c36 => ?_) (fun c36 => ?_)
        · have c36 : (r31).toInt = (0 : Int) := hq_eqi.mp c36
          refine lv_iload_n hx hb dX13_scan_156 rfl (lv_at hl 0 rfl) ?_
          refine lv_bipush (v := 39) hx hb dX13_scan_157 (by decide) ?_
          refine lv_icmp_ne (tgt := 248) hx hb dX13_scan_159 (by decide) (fun c37 => ?_) (fun c37 => ?_)
          · have c37 : ¬ (r13).toInt = (39 : Int) := fun h9 => c37 (hq_eqi.mpr h9)
            refine lv_iload_n hx hb dX13_scan_248 rfl (lv_at hl 0 rfl) ?_
            refine hp_calli (hp_runS (As := [.int (r13)]) (rest := []) hx hb hml hown hts (y_isFigure l D cs B G V25 n hP.1 (r13)    ) hZ cv_X13_90 rfl rfl ⟨Nat.le_of_ble_eq_true rfl, Nat.le_of_ble_eq_true rfl⟩ rfl hl.1 rfl (Nat.le_of_ble_eq_true rfl) dX13_scan_249 ⟨(Nat.le_of_ble_eq_true rfl), (Nat.le_of_ble_eq_true rfl)⟩) hZ (fun r41 V38 n39 _ _ hw40 hZ => ?_)
            obtain ⟨rfl, rfl, hp44⟩ := hw40
            have b45 := hq_rng r41
            refine lv_istore_n (lv' := [(2, .int (r41)), (1, .int (r13)), (0, .ref (mo))]) hx hb dX13_scan_252 rfl hl (by decide) rfl (fun ls hl => ?_)
            have pk47 := pk9.keep (o27 (q + 20) (hq_tne (hr_20 hR) hmo (by simp)))
            suffices lp253 : ∀ (k9 : Nat) (V9 : hp_V) (H9 : Heap) (locs9 : List Loc) (ls : Array Slot) (dg : Int32) (bh253 : Int32), (5000 - bh253.toInt).toNat = k9 → hp_Z D cs B s V9 H9 n locs9 → hq_P cs G (fun _ => true) V V9 → V9 (mo) = some (.inr (13, hm_o q (m_tp) (m_sz) (bh9) (bh253) (m_hd) (m_ft) (m_fa) (m_le) (m_fo) (m_as) (m_fd) (m_bc) (m_bg) (m_bs) (m_be) (m_b0) (m_b1) (m_cm) (m_hc))) → (∀ x, x ≠ mo → V9 x = V x) → hm_TP cs V9 q w → bh9.toInt + 1 ≤ bh253.toInt → bh253.toInt ≤ w.2 → (sp_run (sp_rg w.1 48 57) w.2 bh253.toInt = sp_run (sp_rg w.1 48 57) w.2 ((sp_S w (sp_pos w j)) + 1)) → (dg.toInt = 1 ∧ 48 ≤ w.1 bh9.toInt ∧ w.1 bh9.toInt ≤ 57) ∨ (dg.toInt = 0 ∧ ¬ (48 ≤ w.1 bh9.toInt ∧ w.1 bh9.toInt ≤ 57)) → dg.toInt = 1 ∨ bh253.toInt = bh9.toInt + 1 → lv_has ls 3 [(2, .int (dg)), (1, .int (r13)), (0, .ref (mo))] → W p l e ({ frames := 2, cells := 0, slots := 0, locals := 42 }) s m ([.ref (mo)] : List Value).toArray below meth c H9 locs9 0 0 (MQ below (hp_QV D cs B (fun V' n' => n = n' ∧ hq_P cs G (fun _ => true) V V' ∧ (∀ x, x ≠ mo → V' x = V x) ∧ (∃ m_fr1 : Int32, ∃ m_bh1 : Int32, ∃ m_hd1 : Int32, V' (mo) = some (.inr (13, hm_o q (m_tp) (m_sz) (m_fr1) (m_bh1) (m_hd1) (m_ft) (m_fa) (m_le) (m_fo) (m_as) (m_fd) (m_bc) (m_bg) (m_bs) (m_be) (m_b0) (m_b1) (m_cm) (m_hc))) ∧ (hm_A w j m_fr1 m_bh1 m_hd1) ∧ (0 ≤ m_bh1.toInt ∧ m_bh1.toInt ≤ w.2 + 1)))) ([.ref (mo)] : List Value).toArray s 0 0 (hp_F B)) (F0 m 253 ls []) from lp253 _ _ _ _ ls (r41) (y19) rfl hZ hP e26 (fun x8 hne0 => (o27 x8 hne0).trans ((o8 x8 hne0).trans (fr0 x8 hne0))) pk47 (by omega) (by omega) (by rw [show (y19).toInt = (sp_S w (sp_pos w j)) + 1 by omega]) (by omega) (by omega) (lv_sub hl [0, 1, 2] rfl)
            intro k9
            induction k9 using Nat.strongRecOn with
            | _ k9 ih253 =>
              intro V9 H9 locs9 ls dg  bh253 hk253 hZ hP ho46 fr253 pk48 hv49 hv50 hrun253 hv51 hv52 hl
              have hb_dg := hq_rng dg
              have hb_bh253 := hq_rng bh253
              refine lv_iload_n hx hb dX13_scan_253 rfl (lv_at hl 0 rfl) ?_
              refine lv_if_eq (tgt := 284) hx hb dX13_scan_254 (by decide) (fun c53 => ?_) (fun c53 => ?_)
              · have c53 : (dg).toInt = (0 : Int) := hq_eqi.mp c53
                refine lv_aload_n hx hb dX13_scan_284 rfl (lv_at hl 2 rfl) ?_
                refine lv_iload_n hx hb dX13_scan_285 rfl (lv_at hl 0 rfl) ?_
                have hl54 : (0 : Int32).toInt = 0 := by decide
                refine lv_if_eq (tgt := 306) hx hb dX13_scan_286 (by decide) (fun c55 => ?_) (fun c55 => absurd ((Int32.toInt_inj.mp (by omega) : dg = 0)) c55)
                refine lv_iload_n hx hb dX13_scan_306 rfl (lv_at hl 1 rfl) ?_
                refine lv_bipush (v := 59) hx hb dX13_scan_307 (by decide) ?_
                refine lv_icmp_ne (tgt := 316) hx hb dX13_scan_309 (by decide) (fun c56 => ?_) (fun c56 => ?_)
                · have c56 : ¬ (r13).toInt = (59 : Int) := fun h9 => c56 (hq_eqi.mpr h9)
                  refine lv_iconst (v := 5) hx hb dX13_scan_316 (by decide) ?_
                  refine hp_put hx hb hts hown hZ ho46 fp_X13_83 rfl rfl (Nat.le_of_ble_eq_true rfl) dX13_scan_317 (fun V57 _ _ e58 o59 hZ => ?_)
                  have e58 : V57 (mo) = some (.inr (13, hm_o q (m_tp) (m_sz) (bh9) (bh253) (5) (m_ft) (m_fa) (m_le) (m_fo) (m_as) (m_fd) (m_bc) (m_bg) (m_bs) (m_be) (m_b0) (m_b1) (m_cm) (m_hc))) := e58
                  have hP := hP.put hmo e58 o59 (trivial) rfl
                  have hl60 : (5 : Int32).toInt = 5 := by decide
                  obtain ⟨h8, h9⟩ := sp_c_bad (w := w) (p := sp_pos w j) (by omega) (by omega) (by omega) (by omega) (by omega)
                  exact hp_vret hx hb hr hlocks hZ ⟨rfl, hP, (fun x8 hne0 => (o59 x8 hne0).trans (fr253 x8 hne0)), bh9, bh253, 5, e58, ⟨by omega, by show _ = sp_S w (sp_pos w j); omega, by show _ = sp_h (sp_K w (sp_pos w j)); unfold sp_h; (repeat (first | (rw [if_pos]; rotate_left; omega) | (rw [if_neg]; rotate_left; omega))); omega, fun h7 => by show _ = sp_E w (sp_pos w j); have h6 : sp_K w (sp_pos w j) ≤ 20 := h7; omega⟩, (by omega : 0 ≤ (bh253).toInt ∧ (bh253).toInt ≤ w.2 + 1)⟩ dX13_scan_320
                · have c56 : (r13).toInt = (59 : Int) := hq_eqi.mp c56
                  refine lv_iconst (v := 4) hx hb dX13_scan_312 (by decide) ?_
                  refine lv_goto (tgt := 317) hx hb dX13_scan_313 (by decide) ?_
                  refine hp_put hx hb hts hown hZ ho46 fp_X13_83 rfl rfl (Nat.le_of_ble_eq_true rfl) dX13_scan_317 (fun V61 _ _ e62 o63 hZ => ?_)
                  have e62 : V61 (mo) = some (.inr (13, hm_o q (m_tp) (m_sz) (bh9) (bh253) (4) (m_ft) (m_fa) (m_le) (m_fo) (m_as) (m_fd) (m_bc) (m_bg) (m_bs) (m_be) (m_b0) (m_b1) (m_cm) (m_hc))) := e62
                  have hP := hP.put hmo e62 o63 (trivial) rfl
                  have hl64 : (4 : Int32).toInt = 4 := by decide
                  obtain ⟨h8, h9⟩ := sp_c_semi (w := w) (p := sp_pos w j) (by omega) (by omega)
                  exact hp_vret hx hb hr hlocks hZ ⟨rfl, hP, (fun x8 hne0 => (o63 x8 hne0).trans (fr253 x8 hne0)), bh9, bh253, 4, e62, ⟨by omega, by show _ = sp_S w (sp_pos w j); omega, by show _ = sp_h (sp_K w (sp_pos w j)); unfold sp_h; (repeat (first | (rw [if_pos]; rotate_left; omega) | (rw [if_neg]; rotate_left; omega))); omega, fun h7 => by show _ = sp_E w (sp_pos w j); have h6 : sp_K w (sp_pos w j) ≤ 20 := h7; omega⟩, (by omega : 0 ≤ (bh253).toInt ∧ (bh253).toInt ≤ w.2 + 1)⟩ dX13_scan_320
              · have c53 : ¬ (dg).toInt = (0 : Int) := fun h9 => c53 (hq_eqi.mpr h9)
                refine lv_aload_n hx hb dX13_scan_257 rfl (lv_at hl 2 rfl) ?_
                refine lv_aload_n hx hb dX13_scan_258 rfl (lv_at hl 2 rfl) ?_
                refine hp_get (v := .int (bh253)) hx hb hts hown hZ ho46 fl_X13_76 rfl dX13_scan_259 ?_
                refine hp_calli (hp_runV (As := [.int (bh253)]) (rest := []) hx hb hml hown hts (y_byteAt l D cs B G V9 n hP.1 (q) (mo) (w) (m_tp) (m_sz) (bh9) (bh253) (m_hd) (m_ft) (m_fa) (m_le) (m_fo) (m_as) (m_fd) (m_bc) (m_bg) (m_bs) (m_be) (m_b0) (m_b1) (m_cm) (m_hc) (bh253)  ho46 pk48 hR hmo (by omega) (by omega)) hZ ho46 cv_X13_79 rfl rfl ⟨Nat.le_of_ble_eq_true rfl, Nat.le_of_ble_eq_true rfl⟩ rfl hl.1 rfl (Nat.le_of_ble_eq_true rfl) dX13_scan_262 ⟨(Nat.le_of_ble_eq_true rfl), (Nat.le_of_ble_eq_true rfl)⟩) hZ (fun r68 V65 n66 _ _ hw67 hZ => ?_)
                obtain ⟨rfl, rfl, hp71⟩ := hw67
                have b72 := hq_rng r68
                refine hp_calli (hp_runS (As := [.int (r68)]) (rest := []) hx hb hml hown hts (y_isFigure l D cs B G V9 n hP.1 (r68)    ) hZ cv_X13_90 rfl rfl ⟨Nat.le_of_ble_eq_true rfl, Nat.le_of_ble_eq_true rfl⟩ rfl hl.1 rfl (Nat.le_of_ble_eq_true rfl) dX13_scan_265 ⟨(Nat.le_of_ble_eq_true rfl), (Nat.le_of_ble_eq_true rfl)⟩) hZ (fun r76 V73 n74 _ _ hw75 hZ => ?_)
                obtain ⟨rfl, rfl, hp79⟩ := hw75
                have b80 := hq_rng r76
                refine lv_if_eq (tgt := 284) hx hb dX13_scan_268 (by decide) (fun c81 => ?_) (fun c81 => ?_)
                · have c81 : (r76).toInt = (0 : Int) := hq_eqi.mp c81
                  have hE253 : sp_run (sp_rg w.1 48 57) w.2 ((sp_S w (sp_pos w j)) + 1) = bh253.toInt := hrun253.symm.trans (sp_run_stop (sp_rg_f (by omega)))
                  have hbE : w.1 (sp_run (sp_rg w.1 48 57) w.2 ((sp_S w (sp_pos w j)) + 1)) = w.1 bh253.toInt := by rw [hE253]
                  refine lv_aload_n hx hb dX13_scan_284 rfl (lv_at hl 2 rfl) ?_
                  refine lv_iload_n hx hb dX13_scan_285 rfl (lv_at hl 0 rfl) ?_
                  have hl82 : (0 : Int32).toInt = 0 := by decide
                  refine lv_if_eq (tgt := 306) hx hb dX13_scan_286 (by decide) (fun c83 => absurd c83 ((fun h9 => absurd (congrArg Int32.toInt h9) (by omega) : ¬ dg = 0))) (fun c83 => ?_)
                  refine lv_aload_n hx hb dX13_scan_289 rfl (lv_at hl 2 rfl) ?_
                  refine hp_get (v := .int (bh253)) hx hb hts hown hZ ho46 fl_X13_76 rfl dX13_scan_290 ?_
                  refine lv_aload_n hx hb dX13_scan_293 rfl (lv_at hl 2 rfl) ?_
                  refine hp_get (v := .int (bh9)) hx hb hts hown hZ ho46 fl_X13_60 rfl dX13_scan_294 ?_
                  refine lv_isub hx hb dX13_scan_297 ?_
                  refine lv_topi (fun y84 ey85 => ?_)
                  obtain ⟨k86, hk87, b88, b89⟩ := hq_sub (bh253) (bh9)
                  rw [← ey85] at hk87 b88 b89
                  have hk87 : (y84).toInt = (bh253).toInt - (bh9).toInt + k86 * 4294967296 := hk87
                  obtain rfl : k86 = 0 := by omega
                  refine lv_iconst (v := 1) hx hb dX13_scan_298 (by decide) ?_
                  refine lv_icmp_ne (tgt := 306) hx hb dX13_scan_299 (by decide) (fun c90 => ?_) (fun c90 => ?_)
                  · have c90 : ¬ (y84).toInt = (1 : Int) := fun h9 => c90 (hq_eqi.mpr h9)
                    refine lv_iload_n hx hb dX13_scan_306 rfl (lv_at hl 1 rfl) ?_
                    refine lv_bipush (v := 59) hx hb dX13_scan_307 (by decide) ?_
                    refine lv_icmp_ne (tgt := 316) hx hb dX13_scan_309 (by decide) (fun c91 => ?_) (fun c91 => ?_)
                    · have c91 : ¬ (r13).toInt = (59 : Int) := fun h9 => c91 (hq_eqi.mpr h9)
                      refine lv_iconst (v := 5) hx hb dX13_scan_316 (by decide) ?_
                      refine hp_put hx hb hts hown hZ ho46 fp_X13_83 rfl rfl (Nat.le_of_ble_eq_true rfl) dX13_scan_317 (fun V92 _ _ e93 o94 hZ => ?_)
                      have e93 : V92 (mo) = some (.inr (13, hm_o q (m_tp) (m_sz) (bh9) (bh253) (5) (m_ft) (m_fa) (m_le) (m_fo) (m_as) (m_fd) (m_bc) (m_bg) (m_bs) (m_be) (m_b0) (m_b1) (m_cm) (m_hc))) := e93
                      have hP := hP.put hmo e93 o94 (trivial) rfl
                      have hl95 : (5 : Int32).toInt = 5 := by decide
                      obtain ⟨h8, h9⟩ := sp_c_dig (w := w) (p := sp_pos w j) (by omega) (by omega)
                      rw [sp_run_step (p := sp_rg w.1 48 57) (z := w.2) (i := (sp_S w (sp_pos w j))) (by omega) (sp_rg_t (by omega))] at h8 h9
                      rw [if_neg (by omega)] at h9
                      exact hp_vret hx hb hr hlocks hZ ⟨rfl, hP, (fun x8 hne0 => (o94 x8 hne0).trans (fr253 x8 hne0)), bh9, bh253, 5, e93, ⟨by omega, by show _ = sp_S w (sp_pos w j); omega, by show _ = sp_h (sp_K w (sp_pos w j)); unfold sp_h; (repeat (first | (rw [if_pos]; rotate_left; omega) | (rw [if_neg]; rotate_left; omega))); omega, fun h7 => by show _ = sp_E w (sp_pos w j); have h6 : sp_K w (sp_pos w j) ≤ 20 := h7; omega⟩, (by omega : 0 ≤ (bh253).toInt ∧ (bh253).toInt ≤ w.2 + 1)⟩ dX13_scan_320
                    · have c91 : (r13).toInt = (59 : Int) := hq_eqi.mp c91
                      refine lv_iconst (v := 4) hx hb dX13_scan_312 (by decide) ?_
                      refine lv_goto (tgt := 317) hx hb dX13_scan_313 (by decide) ?_
                      refine hp_put hx hb hts hown hZ ho46 fp_X13_83 rfl rfl (Nat.le_of_ble_eq_true rfl) dX13_scan_317 (fun V96 _ _ e97 o98 hZ => ?_)
                      have e97 : V96 (mo) = some (.inr (13, hm_o q (m_tp) (m_sz) (bh9) (bh253) (4) (m_ft) (m_fa) (m_le) (m_fo) (m_as) (m_fd) (m_bc) (m_bg) (m_bs) (m_be) (m_b0) (m_b1) (m_cm) (m_hc))) := e97
                      have hP := hP.put hmo e97 o98 (trivial) rfl
                      have hl99 : (4 : Int32).toInt = 4 := by decide
                      obtain ⟨h8, h9⟩ := sp_c_dig (w := w) (p := sp_pos w j) (by omega) (by omega)
                      rw [sp_run_step (p := sp_rg w.1 48 57) (z := w.2) (i := (sp_S w (sp_pos w j))) (by omega) (sp_rg_t (by omega))] at h8 h9
                      rw [if_pos (by omega)] at h9
                      exact hp_vret hx hb hr hlocks hZ ⟨rfl, hP, (fun x8 hne0 => (o98 x8 hne0).trans (fr253 x8 hne0)), bh9, bh253, 4, e97, ⟨by omega, by show _ = sp_S w (sp_pos w j); omega, by show _ = sp_h (sp_K w (sp_pos w j)); unfold sp_h; (repeat (first | (rw [if_pos]; rotate_left; omega) | (rw [if_neg]; rotate_left; omega))); omega, fun h7 => by show _ = sp_E w (sp_pos w j); have h6 : sp_K w (sp_pos w j) ≤ 20 := h7; omega⟩, (by omega : 0 ≤ (bh253).toInt ∧ (bh253).toInt ≤ w.2 + 1)⟩ dX13_scan_320
                  · have c90 : (y84).toInt = (1 : Int) := hq_eqi.mp c90
                    refine lv_iconst (v := 2) hx hb dX13_scan_302 (by decide) ?_
                    refine lv_goto (tgt := 317) hx hb dX13_scan_303 (by decide) ?_
                    refine hp_put hx hb hts hown hZ ho46 fp_X13_83 rfl rfl (Nat.le_of_ble_eq_true rfl) dX13_scan_317 (fun V100 _ _ e101 o102 hZ => ?_)
                    have e101 : V100 (mo) = some (.inr (13, hm_o q (m_tp) (m_sz) (bh9) (bh253) (2) (m_ft) (m_fa) (m_le) (m_fo) (m_as) (m_fd) (m_bc) (m_bg) (m_bs) (m_be) (m_b0) (m_b1) (m_cm) (m_hc))) := e101
                    have hP := hP.put hmo e101 o102 (trivial) rfl
                    have hl103 : (2 : Int32).toInt = 2 := by decide
                    obtain ⟨h8, h9⟩ := sp_c_dig (w := w) (p := sp_pos w j) (by omega) (by omega)
                    rw [sp_run_step (p := sp_rg w.1 48 57) (z := w.2) (i := (sp_S w (sp_pos w j))) (by omega) (sp_rg_t (by omega))] at h8 h9
                    rw [if_pos (by omega)] at h9
                    exact hp_vret hx hb hr hlocks hZ ⟨rfl, hP, (fun x8 hne0 => (o102 x8 hne0).trans (fr253 x8 hne0)), bh9, bh253, 2, e101, ⟨by omega, by show _ = sp_S w (sp_pos w j); omega, by show _ = sp_h (sp_K w (sp_pos w j)); unfold sp_h; (repeat (first | (rw [if_pos]; rotate_left; omega) | (rw [if_neg]; rotate_left; omega))); omega, fun h7 => by show _ = sp_E w (sp_pos w j); have h6 : sp_K w (sp_pos w j) ≤ 20 := h7; omega⟩, (by omega : 0 ≤ (bh253).toInt ∧ (bh253).toInt ≤ w.2 + 1)⟩ dX13_scan_320
                · have c81 : ¬ (r76).toInt = (0 : Int) := fun h9 => c81 (hq_eqi.mpr h9)
                  refine lv_aload_n hx hb dX13_scan_271 rfl (lv_at hl 2 rfl) ?_
                  refine lv_dup hx hb dX13_scan_272 rfl ?_
                  refine hp_get (v := .int (bh253)) hx hb hts hown hZ ho46 fl_X13_76 rfl dX13_scan_273 ?_
                  refine lv_iconst (v := 1) hx hb dX13_scan_276 (by decide) ?_
                  refine lv_iadd hx hb dX13_scan_277 ?_
                  refine lv_topi (fun y104 ey105 => ?_)
                  obtain ⟨k106, hk107, b108, b109⟩ := hq_add (bh253) (1)
                  rw [← ey105] at hk107 b108 b109
                  have hk107 : (y104).toInt = (bh253).toInt + (1 : Int) + k106 * 4294967296 := hk107
                  obtain rfl : k106 = 0 := by omega
                  refine hp_put hx hb hts hown hZ ho46 fp_X13_76 rfl rfl (Nat.le_of_ble_eq_true rfl) dX13_scan_278 (fun V110 _ _ e111 o112 hZ => ?_)
                  have e111 : V110 (mo) = some (.inr (13, hm_o q (m_tp) (m_sz) (bh9) (y104) (m_hd) (m_ft) (m_fa) (m_le) (m_fo) (m_as) (m_fd) (m_bc) (m_bg) (m_bs) (m_be) (m_b0) (m_b1) (m_cm) (m_hc))) := e111
                  have hP := hP.put hmo e111 o112 (trivial) rfl
                  refine lv_goto (tgt := 253) hx hb dX13_scan_281 (by decide) ?_
                  have pk113 := pk48.keep (o112 (q + 20) (hq_tne (hr_20 hR) hmo (by simp)))
                  exact ih253 _ (by omega) _ _ _ ls (dg) (y104) rfl hZ hP e111 (fun x8 hne0 => (o112 x8 hne0).trans (fr253 x8 hne0)) pk113 (by omega) (by omega) (by rw [← hrun253, sp_run_step (i := bh253.toInt) (by omega) (sp_rg_t (by omega)), show (y104).toInt = bh253.toInt + 1 by omega]) (by omega) (by omega) (lv_sub hl [0, 1, 2] rfl)
          · have c37 : (r13).toInt = (39 : Int) := hq_eqi.mp c37
            have pk115 := pk9.keep (o27 (q + 20) (hq_tne (hr_20 hR) hmo (by simp)))
            suffices lp162 : ∀ (k9 : Nat) (V9 : hp_V) (H9 : Heap) (locs9 : List Loc) (ls : Array Slot)  (bh162 : Int32), (5000 - bh162.toInt).toNat = k9 → hp_Z D cs B s V9 H9 n locs9 → hq_P cs G (fun _ => true) V V9 → V9 (mo) = some (.inr (13, hm_o q (m_tp) (m_sz) (bh9) (bh162) (m_hd) (m_ft) (m_fa) (m_le) (m_fo) (m_as) (m_fd) (m_bc) (m_bg) (m_bs) (m_be) (m_b0) (m_b1) (m_cm) (m_hc))) → (∀ x, x ≠ mo → V9 x = V x) → hm_TP cs V9 q w → bh9.toInt + 1 ≤ bh162.toInt → bh162.toInt ≤ w.2 → (sp_run (sp_rg w.1 97 122) w.2 bh162.toInt = sp_run (sp_rg w.1 97 122) w.2 ((sp_S w (sp_pos w j)) + 1)) → lv_has ls 3 [(1, .int (r13)), (0, .ref (mo))] → W p l e ({ frames := 2, cells := 0, slots := 0, locals := 42 }) s m ([.ref (mo)] : List Value).toArray below meth c H9 locs9 0 0 (MQ below (hp_QV D cs B (fun V' n' => n = n' ∧ hq_P cs G (fun _ => true) V V' ∧ (∀ x, x ≠ mo → V' x = V x) ∧ (∃ m_fr1 : Int32, ∃ m_bh1 : Int32, ∃ m_hd1 : Int32, V' (mo) = some (.inr (13, hm_o q (m_tp) (m_sz) (m_fr1) (m_bh1) (m_hd1) (m_ft) (m_fa) (m_le) (m_fo) (m_as) (m_fd) (m_bc) (m_bg) (m_bs) (m_be) (m_b0) (m_b1) (m_cm) (m_hc))) ∧ (hm_A w j m_fr1 m_bh1 m_hd1) ∧ (0 ≤ m_bh1.toInt ∧ m_bh1.toInt ≤ w.2 + 1)))) ([.ref (mo)] : List Value).toArray s 0 0 (hp_F B)) (F0 m 162 ls []) from lp162 _ _ _ _ ls  (y19) rfl hZ hP e26 (fun x8 hne0 => (o27 x8 hne0).trans ((o8 x8 hne0).trans (fr0 x8 hne0))) pk115 (by omega) (by omega) (by rw [show (y19).toInt = (sp_S w (sp_pos w j)) + 1 by omega]) (lv_sub hl [0, 1] rfl)
            intro k9
            induction k9 using Nat.strongRecOn with
            | _ k9 ih162 =>
              intro V9 H9 locs9 ls   bh162 hk162 hZ hP ho114 fr162 pk116 hv117 hv118 hrun162 hl
              have hb_bh162 := hq_rng bh162
              refine lv_aload_n hx hb dX13_scan_162 rfl (lv_at hl 1 rfl) ?_
              refine lv_aload_n hx hb dX13_scan_163 rfl (lv_at hl 1 rfl) ?_
              refine hp_get (v := .int (bh162)) hx hb hts hown hZ ho114 fl_X13_76 rfl dX13_scan_164 ?_
              refine hp_calli (hp_runV (As := [.int (bh162)]) (rest := []) hx hb hml hown hts (y_byteAt l D cs B G V9 n hP.1 (q) (mo) (w) (m_tp) (m_sz) (bh9) (bh162) (m_hd) (m_ft) (m_fa) (m_le) (m_fo) (m_as) (m_fd) (m_bc) (m_bg) (m_bs) (m_be) (m_b0) (m_b1) (m_cm) (m_hc) (bh162)  ho114 pk116 hR hmo (by omega) (by omega)) hZ ho114 cv_X13_79 rfl rfl ⟨Nat.le_of_ble_eq_true rfl, Nat.le_of_ble_eq_true rfl⟩ rfl hl.1 rfl (Nat.le_of_ble_eq_true rfl) dX13_scan_167 ⟨(Nat.le_of_ble_eq_true rfl), (Nat.le_of_ble_eq_true rfl)⟩) hZ (fun r122 V119 n120 _ _ hw121 hZ => ?_)
              obtain ⟨rfl, rfl, hp125⟩ := hw121
              have b126 := hq_rng r122
              refine hp_calli (hp_runS (As := [.int (r122)]) (rest := []) hx hb hml hown hts (y_isSmall l D cs B G V9 n hP.1 (r122)    ) hZ cv_X13_86 rfl rfl ⟨Nat.le_of_ble_eq_true rfl, Nat.le_of_ble_eq_true rfl⟩ rfl hl.1 rfl (Nat.le_of_ble_eq_true rfl) dX13_scan_170 ⟨(Nat.le_of_ble_eq_true rfl), (Nat.le_of_ble_eq_true rfl)⟩) hZ (fun r130 V127 n128 _ _ hw129 hZ => ?_)
              obtain ⟨rfl, rfl, hp133⟩ := hw129
              have b134 := hq_rng r130
              refine lv_if_eq (tgt := 189) hx hb dX13_scan_173 (by decide) (fun c135 => ?_) (fun c135 => ?_)
              · have c135 : (r130).toInt = (0 : Int) := hq_eqi.mp c135
                have hE162 : sp_run (sp_rg w.1 97 122) w.2 ((sp_S w (sp_pos w j)) + 1) = bh162.toInt := hrun162.symm.trans (sp_run_stop (sp_rg_f (by omega)))
                have hbE : w.1 (sp_run (sp_rg w.1 97 122) w.2 ((sp_S w (sp_pos w j)) + 1)) = w.1 bh162.toInt := by rw [hE162]
                refine lv_aload_n hx hb dX13_scan_189 rfl (lv_at hl 1 rfl) ?_
                refine lv_aload_n hx hb dX13_scan_190 rfl (lv_at hl 1 rfl) ?_
                refine hp_get (v := .int (bh162)) hx hb hts hown hZ ho114 fl_X13_76 rfl dX13_scan_191 ?_
                refine hp_calli (hp_runV (As := [.int (bh162)]) (rest := []) hx hb hml hown hts (y_byteAt l D cs B G V9 n hP.1 (q) (mo) (w) (m_tp) (m_sz) (bh9) (bh162) (m_hd) (m_ft) (m_fa) (m_le) (m_fo) (m_as) (m_fd) (m_bc) (m_bg) (m_bs) (m_be) (m_b0) (m_b1) (m_cm) (m_hc) (bh162)  ho114 pk116 hR hmo (by omega) (by omega)) hZ ho114 cv_X13_79 rfl rfl ⟨Nat.le_of_ble_eq_true rfl, Nat.le_of_ble_eq_true rfl⟩ rfl hl.1 rfl (Nat.le_of_ble_eq_true rfl) dX13_scan_194 ⟨(Nat.le_of_ble_eq_true rfl), (Nat.le_of_ble_eq_true rfl)⟩) hZ (fun r139 V136 n137 _ _ hw138 hZ => ?_)
                obtain ⟨rfl, rfl, hp142⟩ := hw138
                have b143 := hq_rng r139
                refine lv_bipush (v := 39) hx hb dX13_scan_197 (by decide) ?_
                refine lv_icmp_ne (tgt := 220) hx hb dX13_scan_199 (by decide) (fun c144 => ?_) (fun c144 => ?_)
                · have c144 : ¬ (r139).toInt = (39 : Int) := fun h9 => c144 (hq_eqi.mpr h9)
                  refine lv_iconst (v := 0) hx hb dX13_scan_220 (by decide) ?_
                  refine lv_istore_n (lv' := [(2, .int (0)), (1, .int (r13)), (0, .ref (mo))]) hx hb dX13_scan_221 rfl hl (by decide) rfl (fun ls hl => ?_)
                  refine lv_aload_n hx hb dX13_scan_222 rfl (lv_at hl 2 rfl) ?_
                  refine lv_iload_n hx hb dX13_scan_223 rfl (lv_at hl 0 rfl) ?_
                  refine lv_if_eq (tgt := 231) hx hb dX13_scan_224 (by decide) (fun c145 => ?_) (fun c145 => absurd (by decide) c145)
                  refine lv_iconst (v := 5) hx hb dX13_scan_231 (by decide) ?_
                  refine hp_put hx hb hts hown hZ ho114 fp_X13_83 rfl rfl (Nat.le_of_ble_eq_true rfl) dX13_scan_232 (fun V146 _ _ e147 o148 hZ => ?_)
                  have e147 : V146 (mo) = some (.inr (13, hm_o q (m_tp) (m_sz) (bh9) (bh162) (5) (m_ft) (m_fa) (m_le) (m_fo) (m_as) (m_fd) (m_bc) (m_bg) (m_bs) (m_be) (m_b0) (m_b1) (m_cm) (m_hc))) := e147
                  have hP := hP.put hmo e147 o148 (trivial) rfl
                  refine lv_aload_n hx hb dX13_scan_235 rfl (lv_at hl 2 rfl) ?_
                  refine lv_dup hx hb dX13_scan_236 rfl ?_
                  refine hp_get (v := .int (bh162)) hx hb hts hown hZ e147 fl_X13_76 rfl dX13_scan_237 ?_
                  refine lv_iconst (v := 1) hx hb dX13_scan_240 (by decide) ?_
                  refine lv_iadd hx hb dX13_scan_241 ?_
                  refine lv_topi (fun y149 ey150 => ?_)
                  obtain ⟨k151, hk152, b153, b154⟩ := hq_add (bh162) (1)
                  rw [← ey150] at hk152 b153 b154
                  have hk152 : (y149).toInt = (bh162).toInt + (1 : Int) + k151 * 4294967296 := hk152
                  obtain rfl : k151 = 0 := by omega
                  refine hp_put hx hb hts hown hZ e147 fp_X13_76 rfl rfl (Nat.le_of_ble_eq_true rfl) dX13_scan_242 (fun V155 _ _ e156 o157 hZ => ?_)
                  have e156 : V155 (mo) = some (.inr (13, hm_o q (m_tp) (m_sz) (bh9) (y149) (5) (m_ft) (m_fa) (m_le) (m_fo) (m_as) (m_fd) (m_bc) (m_bg) (m_bs) (m_be) (m_b0) (m_b1) (m_cm) (m_hc))) := e156
                  have hP := hP.put hmo e156 o157 (trivial) rfl
                  refine lv_goto (tgt := 320) hx hb dX13_scan_245 (by decide) ?_
                  have hl158 : (5 : Int32).toInt = 5 := by decide
                  obtain ⟨h8, h9⟩ := sp_c_quote (w := w) (p := sp_pos w j) (by omega) (by omega)
                  rw [if_neg (by omega)] at h9
                  exact hp_vret hx hb hr hlocks hZ ⟨rfl, hP, (fun x8 hne0 => (o157 x8 hne0).trans ((o148 x8 hne0).trans (fr162 x8 hne0))), bh9, y149, 5, e156, ⟨by omega, by show _ = sp_S w (sp_pos w j); omega, by show _ = sp_h (sp_K w (sp_pos w j)); unfold sp_h; (repeat (first | (rw [if_pos]; rotate_left; omega) | (rw [if_neg]; rotate_left; omega))); omega, fun h7 => by show _ = sp_E w (sp_pos w j); have h6 : sp_K w (sp_pos w j) ≤ 20 := h7; omega⟩, (by omega : 0 ≤ (y149).toInt ∧ (y149).toInt ≤ w.2 + 1)⟩ dX13_scan_320
                · have c144 : (r139).toInt = (39 : Int) := hq_eqi.mp c144
                  refine lv_aload_n hx hb dX13_scan_202 rfl (lv_at hl 1 rfl) ?_
                  refine hp_get (v := .int (bh162)) hx hb hts hown hZ ho114 fl_X13_76 rfl dX13_scan_203 ?_
                  refine lv_aload_n hx hb dX13_scan_206 rfl (lv_at hl 1 rfl) ?_
                  refine hp_get (v := .int (bh9)) hx hb hts hown hZ ho114 fl_X13_60 rfl dX13_scan_207 ?_
                  refine lv_isub hx hb dX13_scan_210 ?_
                  refine lv_topi (fun y159 ey160 => ?_)
                  obtain ⟨k161, hk162, b163, b164⟩ := hq_sub (bh162) (bh9)
                  rw [← ey160] at hk162 b163 b164
                  have hk162 : (y159).toInt = (bh162).toInt - (bh9).toInt + k161 * 4294967296 := hk162
                  obtain rfl : k161 = 0 := by omega
                  refine lv_bipush (v := 9) hx hb dX13_scan_211 (by decide) ?_
                  refine lv_icmp_gt (tgt := 220) hx hb dX13_scan_213 (by decide) (fun c165 => ?_) (fun c165 => ?_)
                  · have c165 : (9 : Int) < (y159).toInt := hq_lti.mp c165
                    refine lv_iconst (v := 0) hx hb dX13_scan_220 (by decide) ?_
                    refine lv_istore_n (lv' := [(2, .int (0)), (1, .int (r13)), (0, .ref (mo))]) hx hb dX13_scan_221 rfl hl (by decide) rfl (fun ls hl => ?_)
                    refine lv_aload_n hx hb dX13_scan_222 rfl (lv_at hl 2 rfl) ?_
                    refine lv_iload_n hx hb dX13_scan_223 rfl (lv_at hl 0 rfl) ?_
                    refine lv_if_eq (tgt := 231) hx hb dX13_scan_224 (by decide) (fun c166 => ?_) (fun c166 => absurd (by decide) c166)
                    refine lv_iconst (v := 5) hx hb dX13_scan_231 (by decide) ?_
                    refine hp_put hx hb hts hown hZ ho114 fp_X13_83 rfl rfl (Nat.le_of_ble_eq_true rfl) dX13_scan_232 (fun V167 _ _ e168 o169 hZ => ?_)
                    have e168 : V167 (mo) = some (.inr (13, hm_o q (m_tp) (m_sz) (bh9) (bh162) (5) (m_ft) (m_fa) (m_le) (m_fo) (m_as) (m_fd) (m_bc) (m_bg) (m_bs) (m_be) (m_b0) (m_b1) (m_cm) (m_hc))) := e168
                    have hP := hP.put hmo e168 o169 (trivial) rfl
                    refine lv_aload_n hx hb dX13_scan_235 rfl (lv_at hl 2 rfl) ?_
                    refine lv_dup hx hb dX13_scan_236 rfl ?_
                    refine hp_get (v := .int (bh162)) hx hb hts hown hZ e168 fl_X13_76 rfl dX13_scan_237 ?_
                    refine lv_iconst (v := 1) hx hb dX13_scan_240 (by decide) ?_
                    refine lv_iadd hx hb dX13_scan_241 ?_
                    refine lv_topi (fun y170 ey171 => ?_)
                    obtain ⟨k172, hk173, b174, b175⟩ := hq_add (bh162) (1)
                    rw [← ey171] at hk173 b174 b175
                    have hk173 : (y170).toInt = (bh162).toInt + (1 : Int) + k172 * 4294967296 := hk173
                    obtain rfl : k172 = 0 := by omega
                    refine hp_put hx hb hts hown hZ e168 fp_X13_76 rfl rfl (Nat.le_of_ble_eq_true rfl) dX13_scan_242 (fun V176 _ _ e177 o178 hZ => ?_)
                    have e177 : V176 (mo) = some (.inr (13, hm_o q (m_tp) (m_sz) (bh9) (y170) (5) (m_ft) (m_fa) (m_le) (m_fo) (m_as) (m_fd) (m_bc) (m_bg) (m_bs) (m_be) (m_b0) (m_b1) (m_cm) (m_hc))) := e177
                    have hP := hP.put hmo e177 o178 (trivial) rfl
                    refine lv_goto (tgt := 320) hx hb dX13_scan_245 (by decide) ?_
                    have hl179 : (5 : Int32).toInt = 5 := by decide
                    obtain ⟨h8, h9⟩ := sp_c_quote (w := w) (p := sp_pos w j) (by omega) (by omega)
                    rw [if_neg (by omega)] at h9
                    exact hp_vret hx hb hr hlocks hZ ⟨rfl, hP, (fun x8 hne0 => (o178 x8 hne0).trans ((o169 x8 hne0).trans (fr162 x8 hne0))), bh9, y170, 5, e177, ⟨by omega, by show _ = sp_S w (sp_pos w j); omega, by show _ = sp_h (sp_K w (sp_pos w j)); unfold sp_h; (repeat (first | (rw [if_pos]; rotate_left; omega) | (rw [if_neg]; rotate_left; omega))); omega, fun h7 => by show _ = sp_E w (sp_pos w j); have h6 : sp_K w (sp_pos w j) ≤ 20 := h7; omega⟩, (by omega : 0 ≤ (y170).toInt ∧ (y170).toInt ≤ w.2 + 1)⟩ dX13_scan_320
                  · have c165 : ¬ (9 : Int) < (y159).toInt := fun h9 => c165 (hq_lti.mpr h9)
                    refine lv_iconst (v := 1) hx hb dX13_scan_216 (by decide) ?_
                    refine lv_goto (tgt := 221) hx hb dX13_scan_217 (by decide) ?_
                    refine lv_istore_n (lv' := [(2, .int (1)), (1, .int (r13)), (0, .ref (mo))]) hx hb dX13_scan_221 rfl hl (by decide) rfl (fun ls hl => ?_)
                    refine lv_aload_n hx hb dX13_scan_222 rfl (lv_at hl 2 rfl) ?_
                    refine lv_iload_n hx hb dX13_scan_223 rfl (lv_at hl 0 rfl) ?_
                    refine lv_if_eq (tgt := 231) hx hb dX13_scan_224 (by decide) (fun c180 => absurd c180 (by decide)) (fun c180 => ?_)
                    refine lv_iconst (v := 3) hx hb dX13_scan_227 (by decide) ?_
                    refine lv_goto (tgt := 232) hx hb dX13_scan_228 (by decide) ?_
                    refine hp_put hx hb hts hown hZ ho114 fp_X13_83 rfl rfl (Nat.le_of_ble_eq_true rfl) dX13_scan_232 (fun V181 _ _ e182 o183 hZ => ?_)
                    have e182 : V181 (mo) = some (.inr (13, hm_o q (m_tp) (m_sz) (bh9) (bh162) (3) (m_ft) (m_fa) (m_le) (m_fo) (m_as) (m_fd) (m_bc) (m_bg) (m_bs) (m_be) (m_b0) (m_b1) (m_cm) (m_hc))) := e182
                    have hP := hP.put hmo e182 o183 (trivial) rfl
                    refine lv_aload_n hx hb dX13_scan_235 rfl (lv_at hl 2 rfl) ?_
                    refine lv_dup hx hb dX13_scan_236 rfl ?_
                    refine hp_get (v := .int (bh162)) hx hb hts hown hZ e182 fl_X13_76 rfl dX13_scan_237 ?_
                    refine lv_iconst (v := 1) hx hb dX13_scan_240 (by decide) ?_
                    refine lv_iadd hx hb dX13_scan_241 ?_
                    refine lv_topi (fun y184 ey185 => ?_)
                    obtain ⟨k186, hk187, b188, b189⟩ := hq_add (bh162) (1)
                    rw [← ey185] at hk187 b188 b189
                    have hk187 : (y184).toInt = (bh162).toInt + (1 : Int) + k186 * 4294967296 := hk187
                    obtain rfl : k186 = 0 := by omega
                    refine hp_put hx hb hts hown hZ e182 fp_X13_76 rfl rfl (Nat.le_of_ble_eq_true rfl) dX13_scan_242 (fun V190 _ _ e191 o192 hZ => ?_)
                    have e191 : V190 (mo) = some (.inr (13, hm_o q (m_tp) (m_sz) (bh9) (y184) (3) (m_ft) (m_fa) (m_le) (m_fo) (m_as) (m_fd) (m_bc) (m_bg) (m_bs) (m_be) (m_b0) (m_b1) (m_cm) (m_hc))) := e191
                    have hP := hP.put hmo e191 o192 (trivial) rfl
                    refine lv_goto (tgt := 320) hx hb dX13_scan_245 (by decide) ?_
                    have hl193 : (3 : Int32).toInt = 3 := by decide
                    obtain ⟨h8, h9⟩ := sp_c_quote (w := w) (p := sp_pos w j) (by omega) (by omega)
                    rw [if_pos (by omega)] at h9
                    exact hp_vret hx hb hr hlocks hZ ⟨rfl, hP, (fun x8 hne0 => (o192 x8 hne0).trans ((o183 x8 hne0).trans (fr162 x8 hne0))), bh9, y184, 3, e191, ⟨by omega, by show _ = sp_S w (sp_pos w j); omega, by show _ = sp_h (sp_K w (sp_pos w j)); unfold sp_h; (repeat (first | (rw [if_pos]; rotate_left; omega) | (rw [if_neg]; rotate_left; omega))); omega, fun h7 => by show _ = sp_E w (sp_pos w j); have h6 : sp_K w (sp_pos w j) ≤ 20 := h7; omega⟩, (by omega : 0 ≤ (y184).toInt ∧ (y184).toInt ≤ w.2 + 1)⟩ dX13_scan_320
              · have c135 : ¬ (r130).toInt = (0 : Int) := fun h9 => c135 (hq_eqi.mpr h9)
                refine lv_aload_n hx hb dX13_scan_176 rfl (lv_at hl 1 rfl) ?_
                refine lv_dup hx hb dX13_scan_177 rfl ?_
                refine hp_get (v := .int (bh162)) hx hb hts hown hZ ho114 fl_X13_76 rfl dX13_scan_178 ?_
                refine lv_iconst (v := 1) hx hb dX13_scan_181 (by decide) ?_
                refine lv_iadd hx hb dX13_scan_182 ?_
                refine lv_topi (fun y194 ey195 => ?_)
                obtain ⟨k196, hk197, b198, b199⟩ := hq_add (bh162) (1)
                rw [← ey195] at hk197 b198 b199
                have hk197 : (y194).toInt = (bh162).toInt + (1 : Int) + k196 * 4294967296 := hk197
                obtain rfl : k196 = 0 := by omega
                refine hp_put hx hb hts hown hZ ho114 fp_X13_76 rfl rfl (Nat.le_of_ble_eq_true rfl) dX13_scan_183 (fun V200 _ _ e201 o202 hZ => ?_)
                have e201 : V200 (mo) = some (.inr (13, hm_o q (m_tp) (m_sz) (bh9) (y194) (m_hd) (m_ft) (m_fa) (m_le) (m_fo) (m_as) (m_fd) (m_bc) (m_bg) (m_bs) (m_be) (m_b0) (m_b1) (m_cm) (m_hc))) := e201
                have hP := hP.put hmo e201 o202 (trivial) rfl
                refine lv_goto (tgt := 162) hx hb dX13_scan_186 (by decide) ?_
                have pk203 := pk116.keep (o202 (q + 20) (hq_tne (hr_20 hR) hmo (by simp)))
                exact ih162 _ (by omega) _ _ _ ls  (y194) rfl hZ hP e201 (fun x8 hne0 => (o202 x8 hne0).trans (fr162 x8 hne0)) pk203 (by omega) (by omega) (by rw [← hrun162, sp_run_step (i := bh162.toInt) (by omega) (sp_rg_t (by omega)), show (y194).toInt = bh162.toInt + 1 by omega]) (lv_sub hl [0, 1] rfl)
        · have c36 : ¬ (r31).toInt = (0 : Int) := fun h9 => c36 (hq_eqi.mpr h9)
          have pk205 := pk9.keep (o27 (q + 20) (hq_tne (hr_20 hR) hmo (by simp)))
          suffices lp103 : ∀ (k9 : Nat) (V9 : hp_V) (H9 : Heap) (locs9 : List Loc) (ls : Array Slot)  (bh103 : Int32), (5000 - bh103.toInt).toNat = k9 → hp_Z D cs B s V9 H9 n locs9 → hq_P cs G (fun _ => true) V V9 → V9 (mo) = some (.inr (13, hm_o q (m_tp) (m_sz) (bh9) (bh103) (m_hd) (m_ft) (m_fa) (m_le) (m_fo) (m_as) (m_fd) (m_bc) (m_bg) (m_bs) (m_be) (m_b0) (m_b1) (m_cm) (m_hc))) → (∀ x, x ≠ mo → V9 x = V x) → hm_TP cs V9 q w → bh9.toInt + 1 ≤ bh103.toInt → bh103.toInt ≤ w.2 → (sp_run (sp_rg w.1 97 122) w.2 bh103.toInt = sp_run (sp_rg w.1 97 122) w.2 ((sp_S w (sp_pos w j)) + 1)) → lv_has ls 3 [(1, .int (r13)), (0, .ref (mo))] → W p l e ({ frames := 2, cells := 0, slots := 0, locals := 42 }) s m ([.ref (mo)] : List Value).toArray below meth c H9 locs9 0 0 (MQ below (hp_QV D cs B (fun V' n' => n = n' ∧ hq_P cs G (fun _ => true) V V' ∧ (∀ x, x ≠ mo → V' x = V x) ∧ (∃ m_fr1 : Int32, ∃ m_bh1 : Int32, ∃ m_hd1 : Int32, V' (mo) = some (.inr (13, hm_o q (m_tp) (m_sz) (m_fr1) (m_bh1) (m_hd1) (m_ft) (m_fa) (m_le) (m_fo) (m_as) (m_fd) (m_bc) (m_bg) (m_bs) (m_be) (m_b0) (m_b1) (m_cm) (m_hc))) ∧ (hm_A w j m_fr1 m_bh1 m_hd1) ∧ (0 ≤ m_bh1.toInt ∧ m_bh1.toInt ≤ w.2 + 1)))) ([.ref (mo)] : List Value).toArray s 0 0 (hp_F B)) (F0 m 103 ls []) from lp103 _ _ _ _ ls  (y19) rfl hZ hP e26 (fun x8 hne0 => (o27 x8 hne0).trans ((o8 x8 hne0).trans (fr0 x8 hne0))) pk205 (by omega) (by omega) (by rw [show (y19).toInt = (sp_S w (sp_pos w j)) + 1 by omega]) (lv_sub hl [0, 1] rfl)
          intro k9
          induction k9 using Nat.strongRecOn with
          | _ k9 ih103 =>
            intro V9 H9 locs9 ls   bh103 hk103 hZ hP ho204 fr103 pk206 hv207 hv208 hrun103 hl
            have hb_bh103 := hq_rng bh103
            refine lv_aload_n hx hb dX13_scan_103 rfl (lv_at hl 1 rfl) ?_
            refine lv_aload_n hx hb dX13_scan_104 rfl (lv_at hl 1 rfl) ?_
            refine hp_get (v := .int (bh103)) hx hb hts hown hZ ho204 fl_X13_76 rfl dX13_scan_105 ?_
            refine hp_calli (hp_runV (As := [.int (bh103)]) (rest := []) hx hb hml hown hts (y_byteAt l D cs B G V9 n hP.1 (q) (mo) (w) (m_tp) (m_sz) (bh9) (bh103) (m_hd) (m_ft) (m_fa) (m_le) (m_fo) (m_as) (m_fd) (m_bc) (m_bg) (m_bs) (m_be) (m_b0) (m_b1) (m_cm) (m_hc) (bh103)  ho204 pk206 hR hmo (by omega) (by omega)) hZ ho204 cv_X13_79 rfl rfl ⟨Nat.le_of_ble_eq_true rfl, Nat.le_of_ble_eq_true rfl⟩ rfl hl.1 rfl (Nat.le_of_ble_eq_true rfl) dX13_scan_108 ⟨(Nat.le_of_ble_eq_true rfl), (Nat.le_of_ble_eq_true rfl)⟩) hZ (fun r212 V209 n210 _ _ hw211 hZ => ?_)
            obtain ⟨rfl, rfl, hp215⟩ := hw211
            have b216 := hq_rng r212
            refine hp_calli (hp_runS (As := [.int (r212)]) (rest := []) hx hb hml hown hts (y_isSmall l D cs B G V9 n hP.1 (r212)    ) hZ cv_X13_86 rfl rfl ⟨Nat.le_of_ble_eq_true rfl, Nat.le_of_ble_eq_true rfl⟩ rfl hl.1 rfl (Nat.le_of_ble_eq_true rfl) dX13_scan_111 ⟨(Nat.le_of_ble_eq_true rfl), (Nat.le_of_ble_eq_true rfl)⟩) hZ (fun r220 V217 n218 _ _ hw219 hZ => ?_)
            obtain ⟨rfl, rfl, hp223⟩ := hw219
            have b224 := hq_rng r220
            refine lv_if_eq (tgt := 130) hx hb dX13_scan_114 (by decide) (fun c225 => ?_) (fun c225 => ?_)
            · have c225 : (r220).toInt = (0 : Int) := hq_eqi.mp c225
              have hE103 : sp_run (sp_rg w.1 97 122) w.2 ((sp_S w (sp_pos w j)) + 1) = bh103.toInt := hrun103.symm.trans (sp_run_stop (sp_rg_f (by omega)))
              have hbE : w.1 (sp_run (sp_rg w.1 97 122) w.2 ((sp_S w (sp_pos w j)) + 1)) = w.1 bh103.toInt := by rw [hE103]
              refine lv_aload_n hx hb dX13_scan_130 rfl (lv_at hl 1 rfl) ?_
              refine lv_aload_n hx hb dX13_scan_131 rfl (lv_at hl 1 rfl) ?_
              refine hp_get (v := .int (bh103)) hx hb hts hown hZ ho204 fl_X13_76 rfl dX13_scan_132 ?_
              refine lv_aload_n hx hb dX13_scan_135 rfl (lv_at hl 1 rfl) ?_
              refine hp_get (v := .int (bh9)) hx hb hts hown hZ ho204 fl_X13_60 rfl dX13_scan_136 ?_
              refine lv_isub hx hb dX13_scan_139 ?_
              refine lv_topi (fun y226 ey227 => ?_)
              obtain ⟨k228, hk229, b230, b231⟩ := hq_sub (bh103) (bh9)
              rw [← ey227] at hk229 b230 b231
              have hk229 : (y226).toInt = (bh103).toInt - (bh9).toInt + k228 * 4294967296 := hk229
              obtain rfl : k228 = 0 := by omega
              refine lv_bipush (v := 12) hx hb dX13_scan_140 (by decide) ?_
              refine lv_icmp_le (tgt := 149) hx hb dX13_scan_142 (by decide) (fun c232 => ?_) (fun c232 => ?_)
              · have c232 : (y226).toInt ≤ (12 : Int) := hq_lei.mp c232
                refine lv_iconst (v := 1) hx hb dX13_scan_149 (by decide) ?_
                refine hp_put hx hb hts hown hZ ho204 fp_X13_83 rfl rfl (Nat.le_of_ble_eq_true rfl) dX13_scan_150 (fun V233 _ _ e234 o235 hZ => ?_)
                have e234 : V233 (mo) = some (.inr (13, hm_o q (m_tp) (m_sz) (bh9) (bh103) (1) (m_ft) (m_fa) (m_le) (m_fo) (m_as) (m_fd) (m_bc) (m_bg) (m_bs) (m_be) (m_b0) (m_b1) (m_cm) (m_hc))) := e234
                have hP := hP.put hmo e234 o235 (trivial) rfl
                refine lv_goto (tgt := 320) hx hb dX13_scan_153 (by decide) ?_
                have hl236 : (1 : Int32).toInt = 1 := by decide
                obtain ⟨h8, h9⟩ := sp_c_word (w := w) (p := sp_pos w j) (by omega) (by omega)
                rw [sp_run_step (p := sp_rg w.1 97 122) (z := w.2) (i := (sp_S w (sp_pos w j))) (by omega) (sp_rg_t (by omega))] at h8 h9
                rw [if_pos (by omega)] at h9
                have hwl := sp_wn_le w.1 (sp_S w (sp_pos w j)) (sp_run (sp_rg w.1 97 122) w.2 ((sp_S w (sp_pos w j)) + 1))
                exact hp_vret hx hb hr hlocks hZ ⟨rfl, hP, (fun x8 hne0 => (o235 x8 hne0).trans (fr103 x8 hne0)), bh9, bh103, 1, e234, ⟨by omega, by show _ = sp_S w (sp_pos w j); omega, by show _ = sp_h (sp_K w (sp_pos w j)); unfold sp_h; (repeat (first | (rw [if_pos]; rotate_left; omega) | (rw [if_neg]; rotate_left; omega))); omega, fun h7 => by show _ = sp_E w (sp_pos w j); have h6 : sp_K w (sp_pos w j) ≤ 20 := h7; omega⟩, (by omega : 0 ≤ (bh103).toInt ∧ (bh103).toInt ≤ w.2 + 1)⟩ dX13_scan_320
              · have c232 : ¬ (y226).toInt ≤ (12 : Int) := fun h9 => c232 (hq_lei.mpr h9)
                refine lv_iconst (v := 5) hx hb dX13_scan_145 (by decide) ?_
                refine lv_goto (tgt := 150) hx hb dX13_scan_146 (by decide) ?_
                refine hp_put hx hb hts hown hZ ho204 fp_X13_83 rfl rfl (Nat.le_of_ble_eq_true rfl) dX13_scan_150 (fun V237 _ _ e238 o239 hZ => ?_)
                have e238 : V237 (mo) = some (.inr (13, hm_o q (m_tp) (m_sz) (bh9) (bh103) (5) (m_ft) (m_fa) (m_le) (m_fo) (m_as) (m_fd) (m_bc) (m_bg) (m_bs) (m_be) (m_b0) (m_b1) (m_cm) (m_hc))) := e238
                have hP := hP.put hmo e238 o239 (trivial) rfl
                refine lv_goto (tgt := 320) hx hb dX13_scan_153 (by decide) ?_
                have hl240 : (5 : Int32).toInt = 5 := by decide
                obtain ⟨h8, h9⟩ := sp_c_word (w := w) (p := sp_pos w j) (by omega) (by omega)
                rw [sp_run_step (p := sp_rg w.1 97 122) (z := w.2) (i := (sp_S w (sp_pos w j))) (by omega) (sp_rg_t (by omega))] at h8 h9
                rw [if_neg (by omega)] at h9
                exact hp_vret hx hb hr hlocks hZ ⟨rfl, hP, (fun x8 hne0 => (o239 x8 hne0).trans (fr103 x8 hne0)), bh9, bh103, 5, e238, ⟨by omega, by show _ = sp_S w (sp_pos w j); omega, by show _ = sp_h (sp_K w (sp_pos w j)); unfold sp_h; (repeat (first | (rw [if_pos]; rotate_left; omega) | (rw [if_neg]; rotate_left; omega))); omega, fun h7 => by show _ = sp_E w (sp_pos w j); have h6 : sp_K w (sp_pos w j) ≤ 20 := h7; omega⟩, (by omega : 0 ≤ (bh103).toInt ∧ (bh103).toInt ≤ w.2 + 1)⟩ dX13_scan_320
            · have c225 : ¬ (r220).toInt = (0 : Int) := fun h9 => c225 (hq_eqi.mpr h9)
              refine lv_aload_n hx hb dX13_scan_117 rfl (lv_at hl 1 rfl) ?_
              refine lv_dup hx hb dX13_scan_118 rfl ?_
              refine hp_get (v := .int (bh103)) hx hb hts hown hZ ho204 fl_X13_76 rfl dX13_scan_119 ?_
              refine lv_iconst (v := 1) hx hb dX13_scan_122 (by decide) ?_
              refine lv_iadd hx hb dX13_scan_123 ?_
              refine lv_topi (fun y241 ey242 => ?_)
              obtain ⟨k243, hk244, b245, b246⟩ := hq_add (bh103) (1)
              rw [← ey242] at hk244 b245 b246
              have hk244 : (y241).toInt = (bh103).toInt + (1 : Int) + k243 * 4294967296 := hk244
              obtain rfl : k243 = 0 := by omega
              refine hp_put hx hb hts hown hZ ho204 fp_X13_76 rfl rfl (Nat.le_of_ble_eq_true rfl) dX13_scan_124 (fun V247 _ _ e248 o249 hZ => ?_)
              have e248 : V247 (mo) = some (.inr (13, hm_o q (m_tp) (m_sz) (bh9) (y241) (m_hd) (m_ft) (m_fa) (m_le) (m_fo) (m_as) (m_fd) (m_bc) (m_bg) (m_bs) (m_be) (m_b0) (m_b1) (m_cm) (m_hc))) := e248
              have hP := hP.put hmo e248 o249 (trivial) rfl
              refine lv_goto (tgt := 103) hx hb dX13_scan_127 (by decide) ?_
              have pk250 := pk206.keep (o249 (q + 20) (hq_tne (hr_20 hR) hmo (by simp)))
              exact ih103 _ (by omega) _ _ _ ls  (y241) rfl hZ hP e248 (fun x8 hne0 => (o249 x8 hne0).trans (fr103 x8 hne0)) pk250 (by omega) (by omega) (by rw [← hrun103, sp_run_step (i := bh103.toInt) (by omega) (sp_rg_t (by omega)), show (y241).toInt = bh103.toInt + 1 by omega]) (lv_sub hl [0, 1] rfl)
      · have c18 : (bh9).toInt = (m_sz).toInt := hq_eqi.mp c18
        refine lv_aload_n hx hb dX13_scan_80 rfl (lv_at hl 1 rfl) ?_
        refine lv_iconst (v := 0) hx hb dX13_scan_81 (by decide) ?_
        refine hp_put hx hb hts hown hZ e7 fp_X13_83 rfl rfl (Nat.le_of_ble_eq_true rfl) dX13_scan_82 (fun V251 _ _ e252 o253 hZ => ?_)
        have e252 : V251 (mo) = some (.inr (13, hm_o q (m_tp) (m_sz) (bh9) (bh9) (0) (m_ft) (m_fa) (m_le) (m_fo) (m_as) (m_fd) (m_bc) (m_bg) (m_bs) (m_be) (m_b0) (m_b1) (m_cm) (m_hc))) := e252
        have hP := hP.put hmo e252 o253 (trivial) rfl
        have hl254 : (0 : Int32).toInt = 0 := by decide
        obtain ⟨h8, h9⟩ := sp_c_end (w := w) (p := sp_pos w j) (by omega)
        exact hp_vret hx hb hr hlocks hZ ⟨rfl, hP, (fun x8 hne0 => (o253 x8 hne0).trans ((o8 x8 hne0).trans (fr0 x8 hne0))), bh9, bh9, 0, e252, ⟨by omega, by show _ = sp_S w (sp_pos w j); omega, by show _ = sp_h (sp_K w (sp_pos w j)); unfold sp_h; (repeat (first | (rw [if_pos]; rotate_left; omega) | (rw [if_neg]; rotate_left; omega))); omega, fun h7 => by show _ = sp_E w (sp_pos w j); have h6 : sp_K w (sp_pos w j) ≤ 20 := h7; omega⟩, (by omega : 0 ≤ (bh9).toInt ∧ (bh9).toInt ≤ w.2 + 1)⟩ dX13_scan_85
    · have c5 : ¬ (m_sz).toInt ≤ (bh9).toInt := fun h9 => c5 (hq_lei.mpr h9)
      refine lv_aload_n hx hb dX13_scan_11 rfl (lv_at hl 0 rfl) ?_
      refine hp_get (v := .ref (q + 20)) hx hb hts hown hZ ho1 fl_X13_73 rfl dX13_scan_12 ?_
      refine lv_aload_n hx hb dX13_scan_15 rfl (lv_at hl 0 rfl) ?_
      refine hp_get (v := .int (bh9)) hx hb hts hown hZ ho1 fl_X13_76 rfl dX13_scan_16 ?_
      have fx255 : V9 (q + 20) = some (.inl (cs 0, 4000, .inl (tg))) := (fr0 (q + 20) (hq_tne (hr_20 hR) hmo (by simp))).trans (htg)
      refine hp_bald hx hb hZ fx255 (hq_in (by omega) (by omega)) dX13_scan_19 ?_
      refine lv_topi (fun y256 ey257 => ?_)
      have b258 := hq_rng y256
      have b259 := hx_gw hz3 (i := bh9) (by omega) (by omega)
      rw [← ey257] at b259
      refine lv_bipush (v := 32) hx hb dX13_scan_20 (by decide) ?_
      refine lv_icmp_eq (tgt := 39) hx hb dX13_scan_22 (by decide) (fun c260 => ?_) (fun c260 => ?_)
      · have c260 : (y256).toInt = (32 : Int) := hq_eqi.mp c260
        refine lv_aload_n hx hb dX13_scan_39 rfl (lv_at hl 0 rfl) ?_
        refine lv_dup hx hb dX13_scan_40 rfl ?_
        refine hp_get (v := .int (bh9)) hx hb hts hown hZ ho1 fl_X13_76 rfl dX13_scan_41 ?_
        refine lv_iconst (v := 1) hx hb dX13_scan_44 (by decide) ?_
        refine lv_iadd hx hb dX13_scan_45 ?_
        refine lv_topi (fun y261 ey262 => ?_)
        obtain ⟨k263, hk264, b265, b266⟩ := hq_add (bh9) (1)
        rw [← ey262] at hk264 b265 b266
        have hk264 : (y261).toInt = (bh9).toInt + (1 : Int) + k263 * 4294967296 := hk264
        obtain rfl : k263 = 0 := by omega
        refine hp_put hx hb hts hown hZ ho1 fp_X13_76 rfl rfl (Nat.le_of_ble_eq_true rfl) dX13_scan_46 (fun V267 _ _ e268 o269 hZ => ?_)
        have e268 : V267 (mo) = some (.inr (13, hm_o q (m_tp) (m_sz) (m_fr) (y261) (m_hd) (m_ft) (m_fa) (m_le) (m_fo) (m_as) (m_fd) (m_bc) (m_bg) (m_bs) (m_be) (m_b0) (m_b1) (m_cm) (m_hc))) := e268
        have hP := hP.put hmo e268 o269 (trivial) rfl
        refine lv_goto (tgt := 0) hx hb dX13_scan_49 (by decide) ?_
        have pk270 := pk2.keep (o269 (q + 20) (hq_tne (hr_20 hR) hmo (by simp)))
        exact ih0 _ (by omega) _ _ _ ls  (y261) rfl hZ hP e268 (fun x8 hne0 => (o269 x8 hne0).trans (fr0 x8 hne0)) pk270 (by omega) (by omega) (by rw [← hrun, sp_run_step (i := bh9.toInt) (by omega) (sp_ws_t (by omega)), show (y261).toInt = bh9.toInt + 1 by omega]) (lv_sub hl [0] rfl)
      · have c260 : ¬ (y256).toInt = (32 : Int) := fun h9 => c260 (hq_eqi.mpr h9)
        refine lv_aload_n hx hb dX13_scan_25 rfl (lv_at hl 0 rfl) ?_
        refine hp_get (v := .ref (q + 20)) hx hb hts hown hZ ho1 fl_X13_73 rfl dX13_scan_26 ?_
        refine lv_aload_n hx hb dX13_scan_29 rfl (lv_at hl 0 rfl) ?_
        refine hp_get (v := .int (bh9)) hx hb hts hown hZ ho1 fl_X13_76 rfl dX13_scan_30 ?_
        refine hp_bald hx hb hZ fx255 (hq_in (by omega) (by omega)) dX13_scan_33 ?_
        refine lv_topi (fun y271 ey272 => ?_)
        have b273 := hq_rng y271
        have b274 := hx_gw hz3 (i := bh9) (by omega) (by omega)
        rw [← ey272] at b274
        refine lv_bipush (v := 10) hx hb dX13_scan_34 (by decide) ?_
        refine lv_icmp_ne (tgt := 52) hx hb dX13_scan_36 (by decide) (fun c275 => ?_) (fun c275 => ?_)
        · have c275 : ¬ (y271).toInt = (10 : Int) := fun h9 => c275 (hq_eqi.mpr h9)
          have hS : sp_S w (sp_pos w j) = bh9.toInt := hrun.symm.trans (sp_run_stop (sp_ws_f (by omega)))
          have hbS : w.1 (sp_S w (sp_pos w j)) = w.1 bh9.toInt := by rw [hS]
          have hS2 := sp_S_ge w (sp_pos w j)
          refine lv_aload_n hx hb dX13_scan_52 rfl (lv_at hl 0 rfl) ?_
          refine lv_aload_n hx hb dX13_scan_53 rfl (lv_at hl 0 rfl) ?_
          refine hp_get (v := .int (bh9)) hx hb hts hown hZ ho1 fl_X13_76 rfl dX13_scan_54 ?_
          refine hp_put hx hb hts hown hZ ho1 fp_X13_60 rfl rfl (Nat.le_of_ble_eq_true rfl) dX13_scan_57 (fun V276 _ _ e277 o278 hZ => ?_)
          have e277 : V276 (mo) = some (.inr (13, hm_o q (m_tp) (m_sz) (bh9) (bh9) (m_hd) (m_ft) (m_fa) (m_le) (m_fo) (m_as) (m_fd) (m_bc) (m_bg) (m_bs) (m_be) (m_b0) (m_b1) (m_cm) (m_hc))) := e277
          have hP := hP.put hmo e277 o278 (trivial) rfl
          refine lv_aload_n hx hb dX13_scan_60 rfl (lv_at hl 0 rfl) ?_
          refine lv_aload_n hx hb dX13_scan_61 rfl (lv_at hl 0 rfl) ?_
          refine hp_get (v := .int (bh9)) hx hb hts hown hZ e277 fl_X13_60 rfl dX13_scan_62 ?_
          have pk279 := pk2.keep (o278 (q + 20) (hq_tne (hr_20 hR) hmo (by simp)))
          refine hp_calli (hp_runV (As := [.int (bh9)]) (rest := []) hx hb hml hown hts (y_byteAt l D cs B G V276 n hP.1 (q) (mo) (w) (m_tp) (m_sz) (bh9) (bh9) (m_hd) (m_ft) (m_fa) (m_le) (m_fo) (m_as) (m_fd) (m_bc) (m_bg) (m_bs) (m_be) (m_b0) (m_b1) (m_cm) (m_hc) (bh9)  e277 pk279 hR hmo (by omega) (by omega)) hZ e277 cv_X13_79 rfl rfl ⟨Nat.le_of_ble_eq_true rfl, Nat.le_of_ble_eq_true rfl⟩ rfl hl.1 rfl (Nat.le_of_ble_eq_true rfl) dX13_scan_65 ⟨(Nat.le_of_ble_eq_true rfl), (Nat.le_of_ble_eq_true rfl)⟩) hZ (fun r283 V280 n281 _ _ hw282 hZ => ?_)
          obtain ⟨rfl, rfl, hp286⟩ := hw282
          have b287 := hq_rng r283
          refine lv_istore_n (lv' := [(1, .int (r283)), (0, .ref (mo))]) hx hb dX13_scan_68 rfl hl (by decide) rfl (fun ls hl => ?_)
          refine lv_aload_n hx hb dX13_scan_69 rfl (lv_at hl 1 rfl) ?_
          refine hp_get (v := .int (bh9)) hx hb hts hown hZ e277 fl_X13_60 rfl dX13_scan_70 ?_
          refine lv_aload_n hx hb dX13_scan_73 rfl (lv_at hl 1 rfl) ?_
          refine hp_get (v := .int (m_sz)) hx hb hts hown hZ e277 fl_X13_70 rfl dX13_scan_74 ?_
          refine lv_icmp_ne (tgt := 86) hx hb dX13_scan_77 (by decide) (fun c288 => ?_) (fun c288 => ?_)
          · have c288 : ¬ (bh9).toInt = (m_sz).toInt := fun h9 => c288 (hq_eqi.mpr h9)
            refine lv_aload_n hx hb dX13_scan_86 rfl (lv_at hl 1 rfl) ?_
            refine lv_dup hx hb dX13_scan_87 rfl ?_
            refine hp_get (v := .int (bh9)) hx hb hts hown hZ e277 fl_X13_76 rfl dX13_scan_88 ?_
            refine lv_iconst (v := 1) hx hb dX13_scan_91 (by decide) ?_
            refine lv_iadd hx hb dX13_scan_92 ?_
            refine lv_topi (fun y289 ey290 => ?_)
            obtain ⟨k291, hk292, b293, b294⟩ := hq_add (bh9) (1)
            rw [← ey290] at hk292 b293 b294
            have hk292 : (y289).toInt = (bh9).toInt + (1 : Int) + k291 * 4294967296 := hk292
            obtain rfl : k291 = 0 := by omega
            refine hp_put hx hb hts hown hZ e277 fp_X13_76 rfl rfl (Nat.le_of_ble_eq_true rfl) dX13_scan_93 (fun V295 _ _ e296 o297 hZ => ?_)
            have e296 : V295 (mo) = some (.inr (13, hm_o q (m_tp) (m_sz) (bh9) (y289) (m_hd) (m_ft) (m_fa) (m_le) (m_fo) (m_as) (m_fd) (m_bc) (m_bg) (m_bs) (m_be) (m_b0) (m_b1) (m_cm) (m_hc))) := e296
            have hP := hP.put hmo e296 o297 (trivial) rfl
            refine lv_iload_n hx hb dX13_scan_96 rfl (lv_at hl 0 rfl) ?_
            refine hp_calli (hp_runS (As := [.int (r283)]) (rest := []) hx hb hml hown hts (y_isSmall l D cs B G V295 n hP.1 (r283)    ) hZ cv_X13_86 rfl rfl ⟨Nat.le_of_ble_eq_true rfl, Nat.le_of_ble_eq_true rfl⟩ rfl hl.1 rfl (Nat.le_of_ble_eq_true rfl) dX13_scan_97 ⟨(Nat.le_of_ble_eq_true rfl), (Nat.le_of_ble_eq_true rfl)⟩) hZ (fun r301 V298 n299 _ _ hw300 hZ => ?_)
            obtain ⟨rfl, rfl, hp304⟩ := hw300
            have b305 := hq_rng r301
            refine lv_if_eq (tgt := 156) hx hb dX13_scan_100 (by decide) (fun c306 => ?_) (fun c306 => ?_)
            · have c306 : (r301).toInt = (0 : Int) := hq_eqi.mp c306
              refine lv_iload_n hx hb dX13_scan_156 rfl (lv_at hl 0 rfl) ?_
              refine lv_bipush (v := 39) hx hb dX13_scan_157 (by decide) ?_
              refine lv_icmp_ne (tgt := 248) hx hb dX13_scan_159 (by decide) (fun c307 => ?_) (fun c307 => ?_)
              · have c307 : ¬ (r283).toInt = (39 : Int) := fun h9 => c307 (hq_eqi.mpr h9)
                refine lv_iload_n hx hb dX13_scan_248 rfl (lv_at hl 0 rfl) ?_
                refine hp_calli (hp_runS (As := [.int (r283)]) (rest := []) hx hb hml hown hts (y_isFigure l D cs B G V295 n hP.1 (r283)    ) hZ cv_X13_90 rfl rfl ⟨Nat.le_of_ble_eq_true rfl, Nat.le_of_ble_eq_true rfl⟩ rfl hl.1 rfl (Nat.le_of_ble_eq_true rfl) dX13_scan_249 ⟨(Nat.le_of_ble_eq_true rfl), (Nat.le_of_ble_eq_true rfl)⟩) hZ (fun r311 V308 n309 _ _ hw310 hZ => ?_)
                obtain ⟨rfl, rfl, hp314⟩ := hw310
                have b315 := hq_rng r311
                refine lv_istore_n (lv' := [(2, .int (r311)), (1, .int (r283)), (0, .ref (mo))]) hx hb dX13_scan_252 rfl hl (by decide) rfl (fun ls hl => ?_)
                have pk317 := pk279.keep (o297 (q + 20) (hq_tne (hr_20 hR) hmo (by simp)))
                suffices lp253 : ∀ (k9 : Nat) (V9 : hp_V) (H9 : Heap) (locs9 : List Loc) (ls : Array Slot) (dg : Int32) (bh253 : Int32), (5000 - bh253.toInt).toNat = k9 → hp_Z D cs B s V9 H9 n locs9 → hq_P cs G (fun _ => true) V V9 → V9 (mo) = some (.inr (13, hm_o q (m_tp) (m_sz) (bh9) (bh253) (m_hd) (m_ft) (m_fa) (m_le) (m_fo) (m_as) (m_fd) (m_bc) (m_bg) (m_bs) (m_be) (m_b0) (m_b1) (m_cm) (m_hc))) → (∀ x, x ≠ mo → V9 x = V x) → hm_TP cs V9 q w → bh9.toInt + 1 ≤ bh253.toInt → bh253.toInt ≤ w.2 → (sp_run (sp_rg w.1 48 57) w.2 bh253.toInt = sp_run (sp_rg w.1 48 57) w.2 ((sp_S w (sp_pos w j)) + 1)) → (dg.toInt = 1 ∧ 48 ≤ w.1 bh9.toInt ∧ w.1 bh9.toInt ≤ 57) ∨ (dg.toInt = 0 ∧ ¬ (48 ≤ w.1 bh9.toInt ∧ w.1 bh9.toInt ≤ 57)) → dg.toInt = 1 ∨ bh253.toInt = bh9.toInt + 1 → lv_has ls 3 [(2, .int (dg)), (1, .int (r283)), (0, .ref (mo))] → W p l e ({ frames := 2, cells := 0, slots := 0, locals := 42 }) s m ([.ref (mo)] : List Value).toArray below meth c H9 locs9 0 0 (MQ below (hp_QV D cs B (fun V' n' => n = n' ∧ hq_P cs G (fun _ => true) V V' ∧ (∀ x, x ≠ mo → V' x = V x) ∧ (∃ m_fr1 : Int32, ∃ m_bh1 : Int32, ∃ m_hd1 : Int32, V' (mo) = some (.inr (13, hm_o q (m_tp) (m_sz) (m_fr1) (m_bh1) (m_hd1) (m_ft) (m_fa) (m_le) (m_fo) (m_as) (m_fd) (m_bc) (m_bg) (m_bs) (m_be) (m_b0) (m_b1) (m_cm) (m_hc))) ∧ (hm_A w j m_fr1 m_bh1 m_hd1) ∧ (0 ≤ m_bh1.toInt ∧ m_bh1.toInt ≤ w.2 + 1)))) ([.ref (mo)] : List Value).toArray s 0 0 (hp_F B)) (F0 m 253 ls []) from lp253 _ _ _ _ ls (r311) (y289) rfl hZ hP e296 (fun x8 hne0 => (o297 x8 hne0).trans ((o278 x8 hne0).trans (fr0 x8 hne0))) pk317 (by omega) (by omega) (by rw [show (y289).toInt = (sp_S w (sp_pos w j)) + 1 by omega]) (by omega) (by omega) (lv_sub hl [0, 1, 2] rfl)
                intro k9
                induction k9 using Nat.strongRecOn with
                | _ k9 ih253 =>
                  intro V9 H9 locs9 ls dg  bh253 hk253 hZ hP ho316 fr253 pk318 hv319 hv320 hrun253 hv321 hv322 hl
                  have hb_dg := hq_rng dg
                  have hb_bh253 := hq_rng bh253
                  refine lv_iload_n hx hb dX13_scan_253 rfl (lv_at hl 0 rfl) ?_
                  refine lv_if_eq (tgt := 284) hx hb dX13_scan_254 (by decide) (fun c323 => ?_) (fun c323 => ?_)
                  · have c323 : (dg).toInt = (0 : Int) := hq_eqi.mp c323
                    refine lv_aload_n hx hb dX13_scan_284 rfl (lv_at hl 2 rfl) ?_
                    refine lv_iload_n hx hb dX13_scan_285 rfl (lv_at hl 0 rfl) ?_
                    have hl324 : (0 : Int32).toInt = 0 := by decide
                    refine lv_if_eq (tgt := 306) hx hb dX13_scan_286 (by decide) (fun c325 => ?_) (fun c325 => absurd ((Int32.toInt_inj.mp (by omega) : dg = 0)) c325)
                    refine lv_iload_n hx hb dX13_scan_306 rfl (lv_at hl 1 rfl) ?_
                    refine lv_bipush (v := 59) hx hb dX13_scan_307 (by decide) ?_
                    refine lv_icmp_ne (tgt := 316) hx hb dX13_scan_309 (by decide) (fun c326 => ?_) (fun c326 => ?_)
                    · have c326 : ¬ (r283).toInt = (59 : Int) := fun h9 => c326 (hq_eqi.mpr h9)
                      refine lv_iconst (v := 5) hx hb dX13_scan_316 (by decide) ?_
                      refine hp_put hx hb hts hown hZ ho316 fp_X13_83 rfl rfl (Nat.le_of_ble_eq_true rfl) dX13_scan_317 (fun V327 _ _ e328 o329 hZ => ?_)
                      have e328 : V327 (mo) = some (.inr (13, hm_o q (m_tp) (m_sz) (bh9) (bh253) (5) (m_ft) (m_fa) (m_le) (m_fo) (m_as) (m_fd) (m_bc) (m_bg) (m_bs) (m_be) (m_b0) (m_b1) (m_cm) (m_hc))) := e328
                      have hP := hP.put hmo e328 o329 (trivial) rfl
                      have hl330 : (5 : Int32).toInt = 5 := by decide
                      obtain ⟨h8, h9⟩ := sp_c_bad (w := w) (p := sp_pos w j) (by omega) (by omega) (by omega) (by omega) (by omega)
                      exact hp_vret hx hb hr hlocks hZ ⟨rfl, hP, (fun x8 hne0 => (o329 x8 hne0).trans (fr253 x8 hne0)), bh9, bh253, 5, e328, ⟨by omega, by show _ = sp_S w (sp_pos w j); omega, by show _ = sp_h (sp_K w (sp_pos w j)); unfold sp_h; (repeat (first | (rw [if_pos]; rotate_left; omega) | (rw [if_neg]; rotate_left; omega))); omega, fun h7 => by show _ = sp_E w (sp_pos w j); have h6 : sp_K w (sp_pos w j) ≤ 20 := h7; omega⟩, (by omega : 0 ≤ (bh253).toInt ∧ (bh253).toInt ≤ w.2 + 1)⟩ dX13_scan_320
                    · have c326 : (r283).toInt = (59 : Int) := hq_eqi.mp c326
                      refine lv_iconst (v := 4) hx hb dX13_scan_312 (by decide) ?_
                      refine lv_goto (tgt := 317) hx hb dX13_scan_313 (by decide) ?_
                      refine hp_put hx hb hts hown hZ ho316 fp_X13_83 rfl rfl (Nat.le_of_ble_eq_true rfl) dX13_scan_317 (fun V331 _ _ e332 o333 hZ => ?_)
                      have e332 : V331 (mo) = some (.inr (13, hm_o q (m_tp) (m_sz) (bh9) (bh253) (4) (m_ft) (m_fa) (m_le) (m_fo) (m_as) (m_fd) (m_bc) (m_bg) (m_bs) (m_be) (m_b0) (m_b1) (m_cm) (m_hc))) := e332
                      have hP := hP.put hmo e332 o333 (trivial) rfl
                      have hl334 : (4 : Int32).toInt = 4 := by decide
                      obtain ⟨h8, h9⟩ := sp_c_semi (w := w) (p := sp_pos w j) (by omega) (by omega)
                      exact hp_vret hx hb hr hlocks hZ ⟨rfl, hP, (fun x8 hne0 => (o333 x8 hne0).trans (fr253 x8 hne0)), bh9, bh253, 4, e332, ⟨by omega, by show _ = sp_S w (sp_pos w j); omega, by show _ = sp_h (sp_K w (sp_pos w j)); unfold sp_h; (repeat (first | (rw [if_pos]; rotate_left; omega) | (rw [if_neg]; rotate_left; omega))); omega, fun h7 => by show _ = sp_E w (sp_pos w j); have h6 : sp_K w (sp_pos w j) ≤ 20 := h7; omega⟩, (by omega : 0 ≤ (bh253).toInt ∧ (bh253).toInt ≤ w.2 + 1)⟩ dX13_scan_320
                  · have c323 : ¬ (dg).toInt = (0 : Int) := fun h9 => c323 (hq_eqi.mpr h9)
                    refine lv_aload_n hx hb dX13_scan_257 rfl (lv_at hl 2 rfl) ?_
                    refine lv_aload_n hx hb dX13_scan_258 rfl (lv_at hl 2 rfl) ?_
                    refine hp_get (v := .int (bh253)) hx hb hts hown hZ ho316 fl_X13_76 rfl dX13_scan_259 ?_
                    refine hp_calli (hp_runV (As := [.int (bh253)]) (rest := []) hx hb hml hown hts (y_byteAt l D cs B G V9 n hP.1 (q) (mo) (w) (m_tp) (m_sz) (bh9) (bh253) (m_hd) (m_ft) (m_fa) (m_le) (m_fo) (m_as) (m_fd) (m_bc) (m_bg) (m_bs) (m_be) (m_b0) (m_b1) (m_cm) (m_hc) (bh253)  ho316 pk318 hR hmo (by omega) (by omega)) hZ ho316 cv_X13_79 rfl rfl ⟨Nat.le_of_ble_eq_true rfl, Nat.le_of_ble_eq_true rfl⟩ rfl hl.1 rfl (Nat.le_of_ble_eq_true rfl) dX13_scan_262 ⟨(Nat.le_of_ble_eq_true rfl), (Nat.le_of_ble_eq_true rfl)⟩) hZ (fun r338 V335 n336 _ _ hw337 hZ => ?_)
                    obtain ⟨rfl, rfl, hp341⟩ := hw337
                    have b342 := hq_rng r338
                    refine hp_calli (hp_runS (As := [.int (r338)]) (rest := []) hx hb hml hown hts (y_isFigure l D cs B G V9 n hP.1 (r338)    ) hZ cv_X13_90 rfl rfl ⟨Nat.le_of_ble_eq_true rfl, Nat.le_of_ble_eq_true rfl⟩ rfl hl.1 rfl (Nat.le_of_ble_eq_true rfl) dX13_scan_265 ⟨(Nat.le_of_ble_eq_true rfl), (Nat.le_of_ble_eq_true rfl)⟩) hZ (fun r346 V343 n344 _ _ hw345 hZ => ?_)
                    obtain ⟨rfl, rfl, hp349⟩ := hw345
                    have b350 := hq_rng r346
                    refine lv_if_eq (tgt := 284) hx hb dX13_scan_268 (by decide) (fun c351 => ?_) (fun c351 => ?_)
                    · have c351 : (r346).toInt = (0 : Int) := hq_eqi.mp c351
                      have hE253 : sp_run (sp_rg w.1 48 57) w.2 ((sp_S w (sp_pos w j)) + 1) = bh253.toInt := hrun253.symm.trans (sp_run_stop (sp_rg_f (by omega)))
                      have hbE : w.1 (sp_run (sp_rg w.1 48 57) w.2 ((sp_S w (sp_pos w j)) + 1)) = w.1 bh253.toInt := by rw [hE253]
                      refine lv_aload_n hx hb dX13_scan_284 rfl (lv_at hl 2 rfl) ?_
                      refine lv_iload_n hx hb dX13_scan_285 rfl (lv_at hl 0 rfl) ?_
                      have hl352 : (0 : Int32).toInt = 0 := by decide
                      refine lv_if_eq (tgt := 306) hx hb dX13_scan_286 (by decide) (fun c353 => absurd c353 ((fun h9 => absurd (congrArg Int32.toInt h9) (by omega) : ¬ dg = 0))) (fun c353 => ?_)
                      refine lv_aload_n hx hb dX13_scan_289 rfl (lv_at hl 2 rfl) ?_
                      refine hp_get (v := .int (bh253)) hx hb hts hown hZ ho316 fl_X13_76 rfl dX13_scan_290 ?_
                      refine lv_aload_n hx hb dX13_scan_293 rfl (lv_at hl 2 rfl) ?_
                      refine hp_get (v := .int (bh9)) hx hb hts hown hZ ho316 fl_X13_60 rfl dX13_scan_294 ?_
                      refine lv_isub hx hb dX13_scan_297 ?_
                      refine lv_topi (fun y354 ey355 => ?_)
                      obtain ⟨k356, hk357, b358, b359⟩ := hq_sub (bh253) (bh9)
                      rw [← ey355] at hk357 b358 b359
                      have hk357 : (y354).toInt = (bh253).toInt - (bh9).toInt + k356 * 4294967296 := hk357
                      obtain rfl : k356 = 0 := by omega
                      refine lv_iconst (v := 1) hx hb dX13_scan_298 (by decide) ?_
                      refine lv_icmp_ne (tgt := 306) hx hb dX13_scan_299 (by decide) (fun c360 => ?_) (fun c360 => ?_)
                      · have c360 : ¬ (y354).toInt = (1 : Int) := fun h9 => c360 (hq_eqi.mpr h9)
                        refine lv_iload_n hx hb dX13_scan_306 rfl (lv_at hl 1 rfl) ?_
                        refine lv_bipush (v := 59) hx hb dX13_scan_307 (by decide) ?_
                        refine lv_icmp_ne (tgt := 316) hx hb dX13_scan_309 (by decide) (fun c361 => ?_) (fun c361 => ?_)
                        · have c361 : ¬ (r283).toInt = (59 : Int) := fun h9 => c361 (hq_eqi.mpr h9)
                          refine lv_iconst (v := 5) hx hb dX13_scan_316 (by decide) ?_
                          refine hp_put hx hb hts hown hZ ho316 fp_X13_83 rfl rfl (Nat.le_of_ble_eq_true rfl) dX13_scan_317 (fun V362 _ _ e363 o364 hZ => ?_)
                          have e363 : V362 (mo) = some (.inr (13, hm_o q (m_tp) (m_sz) (bh9) (bh253) (5) (m_ft) (m_fa) (m_le) (m_fo) (m_as) (m_fd) (m_bc) (m_bg) (m_bs) (m_be) (m_b0) (m_b1) (m_cm) (m_hc))) := e363
                          have hP := hP.put hmo e363 o364 (trivial) rfl
                          have hl365 : (5 : Int32).toInt = 5 := by decide
                          obtain ⟨h8, h9⟩ := sp_c_dig (w := w) (p := sp_pos w j) (by omega) (by omega)
                          rw [sp_run_step (p := sp_rg w.1 48 57) (z := w.2) (i := (sp_S w (sp_pos w j))) (by omega) (sp_rg_t (by omega))] at h8 h9
                          rw [if_neg (by omega)] at h9
                          exact hp_vret hx hb hr hlocks hZ ⟨rfl, hP, (fun x8 hne0 => (o364 x8 hne0).trans (fr253 x8 hne0)), bh9, bh253, 5, e363, ⟨by omega, by show _ = sp_S w (sp_pos w j); omega, by show _ = sp_h (sp_K w (sp_pos w j)); unfold sp_h; (repeat (first | (rw [if_pos]; rotate_left; omega) | (rw [if_neg]; rotate_left; omega))); omega, fun h7 => by show _ = sp_E w (sp_pos w j); have h6 : sp_K w (sp_pos w j) ≤ 20 := h7; omega⟩, (by omega : 0 ≤ (bh253).toInt ∧ (bh253).toInt ≤ w.2 + 1)⟩ dX13_scan_320
                        · have c361 : (r283).toInt = (59 : Int) := hq_eqi.mp c361
                          refine lv_iconst (v := 4) hx hb dX13_scan_312 (by decide) ?_
                          refine lv_goto (tgt := 317) hx hb dX13_scan_313 (by decide) ?_
                          refine hp_put hx hb hts hown hZ ho316 fp_X13_83 rfl rfl (Nat.le_of_ble_eq_true rfl) dX13_scan_317 (fun V366 _ _ e367 o368 hZ => ?_)
                          have e367 : V366 (mo) = some (.inr (13, hm_o q (m_tp) (m_sz) (bh9) (bh253) (4) (m_ft) (m_fa) (m_le) (m_fo) (m_as) (m_fd) (m_bc) (m_bg) (m_bs) (m_be) (m_b0) (m_b1) (m_cm) (m_hc))) := e367
                          have hP := hP.put hmo e367 o368 (trivial) rfl
                          have hl369 : (4 : Int32).toInt = 4 := by decide
                          obtain ⟨h8, h9⟩ := sp_c_dig (w := w) (p := sp_pos w j) (by omega) (by omega)
                          rw [sp_run_step (p := sp_rg w.1 48 57) (z := w.2) (i := (sp_S w (sp_pos w j))) (by omega) (sp_rg_t (by omega))] at h8 h9
                          rw [if_pos (by omega)] at h9
                          exact hp_vret hx hb hr hlocks hZ ⟨rfl, hP, (fun x8 hne0 => (o368 x8 hne0).trans (fr253 x8 hne0)), bh9, bh253, 4, e367, ⟨by omega, by show _ = sp_S w (sp_pos w j); omega, by show _ = sp_h (sp_K w (sp_pos w j)); unfold sp_h; (repeat (first | (rw [if_pos]; rotate_left; omega) | (rw [if_neg]; rotate_left; omega))); omega, fun h7 => by show _ = sp_E w (sp_pos w j); have h6 : sp_K w (sp_pos w j) ≤ 20 := h7; omega⟩, (by omega : 0 ≤ (bh253).toInt ∧ (bh253).toInt ≤ w.2 + 1)⟩ dX13_scan_320
                      · have c360 : (y354).toInt = (1 : Int) := hq_eqi.mp c360
                        refine lv_iconst (v := 2) hx hb dX13_scan_302 (by decide) ?_
                        refine lv_goto (tgt := 317) hx hb dX13_scan_303 (by decide) ?_
                        refine hp_put hx hb hts hown hZ ho316 fp_X13_83 rfl rfl (Nat.le_of_ble_eq_true rfl) dX13_scan_317 (fun V370 _ _ e371 o372 hZ => ?_)
                        have e371 : V370 (mo) = some (.inr (13, hm_o q (m_tp) (m_sz) (bh9) (bh253) (2) (m_ft) (m_fa) (m_le) (m_fo) (m_as) (m_fd) (m_bc) (m_bg) (m_bs) (m_be) (m_b0) (m_b1) (m_cm) (m_hc))) := e371
                        have hP := hP.put hmo e371 o372 (trivial) rfl
                        have hl373 : (2 : Int32).toInt = 2 := by decide
                        obtain ⟨h8, h9⟩ := sp_c_dig (w := w) (p := sp_pos w j) (by omega) (by omega)
                        rw [sp_run_step (p := sp_rg w.1 48 57) (z := w.2) (i := (sp_S w (sp_pos w j))) (by omega) (sp_rg_t (by omega))] at h8 h9
                        rw [if_pos (by omega)] at h9
                        exact hp_vret hx hb hr hlocks hZ ⟨rfl, hP, (fun x8 hne0 => (o372 x8 hne0).trans (fr253 x8 hne0)), bh9, bh253, 2, e371, ⟨by omega, by show _ = sp_S w (sp_pos w j); omega, by show _ = sp_h (sp_K w (sp_pos w j)); unfold sp_h; (repeat (first | (rw [if_pos]; rotate_left; omega) | (rw [if_neg]; rotate_left; omega))); omega, fun h7 => by show _ = sp_E w (sp_pos w j); have h6 : sp_K w (sp_pos w j) ≤ 20 := h7; omega⟩, (by omega : 0 ≤ (bh253).toInt ∧ (bh253).toInt ≤ w.2 + 1)⟩ dX13_scan_320
                    · have c351 : ¬ (r346).toInt = (0 : Int) := fun h9 => c351 (hq_eqi.mpr h9)
                      refine lv_aload_n hx hb dX13_scan_271 rfl (lv_at hl 2 rfl) ?_
                      refine lv_dup hx hb dX13_scan_272 rfl ?_
                      refine hp_get (v := .int (bh253)) hx hb hts hown hZ ho316 fl_X13_76 rfl dX13_scan_273 ?_
                      refine lv_iconst (v := 1) hx hb dX13_scan_276 (by decide) ?_
                      refine lv_iadd hx hb dX13_scan_277 ?_
                      refine lv_topi (fun y374 ey375 => ?_)
                      obtain ⟨k376, hk377, b378, b379⟩ := hq_add (bh253) (1)
                      rw [← ey375] at hk377 b378 b379
                      have hk377 : (y374).toInt = (bh253).toInt + (1 : Int) + k376 * 4294967296 := hk377
                      obtain rfl : k376 = 0 := by omega
                      refine hp_put hx hb hts hown hZ ho316 fp_X13_76 rfl rfl (Nat.le_of_ble_eq_true rfl) dX13_scan_278 (fun V380 _ _ e381 o382 hZ => ?_)
                      have e381 : V380 (mo) = some (.inr (13, hm_o q (m_tp) (m_sz) (bh9) (y374) (m_hd) (m_ft) (m_fa) (m_le) (m_fo) (m_as) (m_fd) (m_bc) (m_bg) (m_bs) (m_be) (m_b0) (m_b1) (m_cm) (m_hc))) := e381
                      have hP := hP.put hmo e381 o382 (trivial) rfl
                      refine lv_goto (tgt := 253) hx hb dX13_scan_281 (by decide) ?_
                      have pk383 := pk318.keep (o382 (q + 20) (hq_tne (hr_20 hR) hmo (by simp)))
                      exact ih253 _ (by omega) _ _ _ ls (dg) (y374) rfl hZ hP e381 (fun x8 hne0 => (o382 x8 hne0).trans (fr253 x8 hne0)) pk383 (by omega) (by omega) (by rw [← hrun253, sp_run_step (i := bh253.toInt) (by omega) (sp_rg_t (by omega)), show (y374).toInt = bh253.toInt + 1 by omega]) (by omega) (by omega) (lv_sub hl [0, 1, 2] rfl)
              · have c307 : (r283).toInt = (39 : Int) := hq_eqi.mp c307
                have pk385 := pk279.keep (o297 (q + 20) (hq_tne (hr_20 hR) hmo (by simp)))
                suffices lp162 : ∀ (k9 : Nat) (V9 : hp_V) (H9 : Heap) (locs9 : List Loc) (ls : Array Slot)  (bh162 : Int32), (5000 - bh162.toInt).toNat = k9 → hp_Z D cs B s V9 H9 n locs9 → hq_P cs G (fun _ => true) V V9 → V9 (mo) = some (.inr (13, hm_o q (m_tp) (m_sz) (bh9) (bh162) (m_hd) (m_ft) (m_fa) (m_le) (m_fo) (m_as) (m_fd) (m_bc) (m_bg) (m_bs) (m_be) (m_b0) (m_b1) (m_cm) (m_hc))) → (∀ x, x ≠ mo → V9 x = V x) → hm_TP cs V9 q w → bh9.toInt + 1 ≤ bh162.toInt → bh162.toInt ≤ w.2 → (sp_run (sp_rg w.1 97 122) w.2 bh162.toInt = sp_run (sp_rg w.1 97 122) w.2 ((sp_S w (sp_pos w j)) + 1)) → lv_has ls 3 [(1, .int (r283)), (0, .ref (mo))] → W p l e ({ frames := 2, cells := 0, slots := 0, locals := 42 }) s m ([.ref (mo)] : List Value).toArray below meth c H9 locs9 0 0 (MQ below (hp_QV D cs B (fun V' n' => n = n' ∧ hq_P cs G (fun _ => true) V V' ∧ (∀ x, x ≠ mo → V' x = V x) ∧ (∃ m_fr1 : Int32, ∃ m_bh1 : Int32, ∃ m_hd1 : Int32, V' (mo) = some (.inr (13, hm_o q (m_tp) (m_sz) (m_fr1) (m_bh1) (m_hd1) (m_ft) (m_fa) (m_le) (m_fo) (m_as) (m_fd) (m_bc) (m_bg) (m_bs) (m_be) (m_b0) (m_b1) (m_cm) (m_hc))) ∧ (hm_A w j m_fr1 m_bh1 m_hd1) ∧ (0 ≤ m_bh1.toInt ∧ m_bh1.toInt ≤ w.2 + 1)))) ([.ref (mo)] : List Value).toArray s 0 0 (hp_F B)) (F0 m 162 ls []) from lp162 _ _ _ _ ls  (y289) rfl hZ hP e296 (fun x8 hne0 => (o297 x8 hne0).trans ((o278 x8 hne0).trans (fr0 x8 hne0))) pk385 (by omega) (by omega) (by rw [show (y289).toInt = (sp_S w (sp_pos w j)) + 1 by omega]) (lv_sub hl [0, 1] rfl)
                intro k9
                induction k9 using Nat.strongRecOn with
                | _ k9 ih162 =>
                  intro V9 H9 locs9 ls   bh162 hk162 hZ hP ho384 fr162 pk386 hv387 hv388 hrun162 hl
                  have hb_bh162 := hq_rng bh162
                  refine lv_aload_n hx hb dX13_scan_162 rfl (lv_at hl 1 rfl) ?_
                  refine lv_aload_n hx hb dX13_scan_163 rfl (lv_at hl 1 rfl) ?_
                  refine hp_get (v := .int (bh162)) hx hb hts hown hZ ho384 fl_X13_76 rfl dX13_scan_164 ?_
                  refine hp_calli (hp_runV (As := [.int (bh162)]) (rest := []) hx hb hml hown hts (y_byteAt l D cs B G V9 n hP.1 (q) (mo) (w) (m_tp) (m_sz) (bh9) (bh162) (m_hd) (m_ft) (m_fa) (m_le) (m_fo) (m_as) (m_fd) (m_bc) (m_bg) (m_bs) (m_be) (m_b0) (m_b1) (m_cm) (m_hc) (bh162)  ho384 pk386 hR hmo (by omega) (by omega)) hZ ho384 cv_X13_79 rfl rfl ⟨Nat.le_of_ble_eq_true rfl, Nat.le_of_ble_eq_true rfl⟩ rfl hl.1 rfl (Nat.le_of_ble_eq_true rfl) dX13_scan_167 ⟨(Nat.le_of_ble_eq_true rfl), (Nat.le_of_ble_eq_true rfl)⟩) hZ (fun r392 V389 n390 _ _ hw391 hZ => ?_)
                  obtain ⟨rfl, rfl, hp395⟩ := hw391
                  have b396 := hq_rng r392
                  refine hp_calli (hp_runS (As := [.int (r392)]) (rest := []) hx hb hml hown hts (y_isSmall l D cs B G V9 n hP.1 (r392)    ) hZ cv_X13_86 rfl rfl ⟨Nat.le_of_ble_eq_true rfl, Nat.le_of_ble_eq_true rfl⟩ rfl hl.1 rfl (Nat.le_of_ble_eq_true rfl) dX13_scan_170 ⟨(Nat.le_of_ble_eq_true rfl), (Nat.le_of_ble_eq_true rfl)⟩) hZ (fun r400 V397 n398 _ _ hw399 hZ => ?_)
                  obtain ⟨rfl, rfl, hp403⟩ := hw399
                  have b404 := hq_rng r400
                  refine lv_if_eq (tgt := 189) hx hb dX13_scan_173 (by decide) (fun c405 => ?_) (fun c405 => ?_)
                  · have c405 : (r400).toInt = (0 : Int) := hq_eqi.mp c405
                    have hE162 : sp_run (sp_rg w.1 97 122) w.2 ((sp_S w (sp_pos w j)) + 1) = bh162.toInt := hrun162.symm.trans (sp_run_stop (sp_rg_f (by omega)))
                    have hbE : w.1 (sp_run (sp_rg w.1 97 122) w.2 ((sp_S w (sp_pos w j)) + 1)) = w.1 bh162.toInt := by rw [hE162]
                    refine lv_aload_n hx hb dX13_scan_189 rfl (lv_at hl 1 rfl) ?_
                    refine lv_aload_n hx hb dX13_scan_190 rfl (lv_at hl 1 rfl) ?_
                    refine hp_get (v := .int (bh162)) hx hb hts hown hZ ho384 fl_X13_76 rfl dX13_scan_191 ?_
                    refine hp_calli (hp_runV (As := [.int (bh162)]) (rest := []) hx hb hml hown hts (y_byteAt l D cs B G V9 n hP.1 (q) (mo) (w) (m_tp) (m_sz) (bh9) (bh162) (m_hd) (m_ft) (m_fa) (m_le) (m_fo) (m_as) (m_fd) (m_bc) (m_bg) (m_bs) (m_be) (m_b0) (m_b1) (m_cm) (m_hc) (bh162)  ho384 pk386 hR hmo (by omega) (by omega)) hZ ho384 cv_X13_79 rfl rfl ⟨Nat.le_of_ble_eq_true rfl, Nat.le_of_ble_eq_true rfl⟩ rfl hl.1 rfl (Nat.le_of_ble_eq_true rfl) dX13_scan_194 ⟨(Nat.le_of_ble_eq_true rfl), (Nat.le_of_ble_eq_true rfl)⟩) hZ (fun r409 V406 n407 _ _ hw408 hZ => ?_)
                    obtain ⟨rfl, rfl, hp412⟩ := hw408
                    have b413 := hq_rng r409
                    refine lv_bipush (v := 39) hx hb dX13_scan_197 (by decide) ?_
                    refine lv_icmp_ne (tgt := 220) hx hb dX13_scan_199 (by decide) (fun c414 => ?_) (fun c414 => ?_)
                    · have c414 : ¬ (r409).toInt = (39 : Int) := fun h9 => c414 (hq_eqi.mpr h9)
                      refine lv_iconst (v := 0) hx hb dX13_scan_220 (by decide) ?_
                      refine lv_istore_n (lv' := [(2, .int (0)), (1, .int (r283)), (0, .ref (mo))]) hx hb dX13_scan_221 rfl hl (by decide) rfl (fun ls hl => ?_)
                      refine lv_aload_n hx hb dX13_scan_222 rfl (lv_at hl 2 rfl) ?_
                      refine lv_iload_n hx hb dX13_scan_223 rfl (lv_at hl 0 rfl) ?_
                      refine lv_if_eq (tgt := 231) hx hb dX13_scan_224 (by decide) (fun c415 => ?_) (fun c415 => absurd (by decide) c415)
                      refine lv_iconst (v := 5) hx hb dX13_scan_231 (by decide) ?_
                      refine hp_put hx hb hts hown hZ ho384 fp_X13_83 rfl rfl (Nat.le_of_ble_eq_true rfl) dX13_scan_232 (fun V416 _ _ e417 o418 hZ => ?_)
                      have e417 : V416 (mo) = some (.inr (13, hm_o q (m_tp) (m_sz) (bh9) (bh162) (5) (m_ft) (m_fa) (m_le) (m_fo) (m_as) (m_fd) (m_bc) (m_bg) (m_bs) (m_be) (m_b0) (m_b1) (m_cm) (m_hc))) := e417
                      have hP := hP.put hmo e417 o418 (trivial) rfl
                      refine lv_aload_n hx hb dX13_scan_235 rfl (lv_at hl 2 rfl) ?_
                      refine lv_dup hx hb dX13_scan_236 rfl ?_
                      refine hp_get (v := .int (bh162)) hx hb hts hown hZ e417 fl_X13_76 rfl dX13_scan_237 ?_
                      refine lv_iconst (v := 1) hx hb dX13_scan_240 (by decide) ?_
                      refine lv_iadd hx hb dX13_scan_241 ?_
                      refine lv_topi (fun y419 ey420 => ?_)
                      obtain ⟨k421, hk422, b423, b424⟩ := hq_add (bh162) (1)
                      rw [← ey420] at hk422 b423 b424
                      have hk422 : (y419).toInt = (bh162).toInt + (1 : Int) + k421 * 4294967296 := hk422
                      obtain rfl : k421 = 0 := by omega
                      refine hp_put hx hb hts hown hZ e417 fp_X13_76 rfl rfl (Nat.le_of_ble_eq_true rfl) dX13_scan_242 (fun V425 _ _ e426 o427 hZ => ?_)
                      have e426 : V425 (mo) = some (.inr (13, hm_o q (m_tp) (m_sz) (bh9) (y419) (5) (m_ft) (m_fa) (m_le) (m_fo) (m_as) (m_fd) (m_bc) (m_bg) (m_bs) (m_be) (m_b0) (m_b1) (m_cm) (m_hc))) := e426
                      have hP := hP.put hmo e426 o427 (trivial) rfl
                      refine lv_goto (tgt := 320) hx hb dX13_scan_245 (by decide) ?_
                      have hl428 : (5 : Int32).toInt = 5 := by decide
                      obtain ⟨h8, h9⟩ := sp_c_quote (w := w) (p := sp_pos w j) (by omega) (by omega)
                      rw [if_neg (by omega)] at h9
                      exact hp_vret hx hb hr hlocks hZ ⟨rfl, hP, (fun x8 hne0 => (o427 x8 hne0).trans ((o418 x8 hne0).trans (fr162 x8 hne0))), bh9, y419, 5, e426, ⟨by omega, by show _ = sp_S w (sp_pos w j); omega, by show _ = sp_h (sp_K w (sp_pos w j)); unfold sp_h; (repeat (first | (rw [if_pos]; rotate_left; omega) | (rw [if_neg]; rotate_left; omega))); omega, fun h7 => by show _ = sp_E w (sp_pos w j); have h6 : sp_K w (sp_pos w j) ≤ 20 := h7; omega⟩, (by omega : 0 ≤ (y419).toInt ∧ (y419).toInt ≤ w.2 + 1)⟩ dX13_scan_320
                    · have c414 : (r409).toInt = (39 : Int) := hq_eqi.mp c414
                      refine lv_aload_n hx hb dX13_scan_202 rfl (lv_at hl 1 rfl) ?_
                      refine hp_get (v := .int (bh162)) hx hb hts hown hZ ho384 fl_X13_76 rfl dX13_scan_203 ?_
                      refine lv_aload_n hx hb dX13_scan_206 rfl (lv_at hl 1 rfl) ?_
                      refine hp_get (v := .int (bh9)) hx hb hts hown hZ ho384 fl_X13_60 rfl dX13_scan_207 ?_
                      refine lv_isub hx hb dX13_scan_210 ?_
                      refine lv_topi (fun y429 ey430 => ?_)
                      obtain ⟨k431, hk432, b433, b434⟩ := hq_sub (bh162) (bh9)
                      rw [← ey430] at hk432 b433 b434
                      have hk432 : (y429).toInt = (bh162).toInt - (bh9).toInt + k431 * 4294967296 := hk432
                      obtain rfl : k431 = 0 := by omega
                      refine lv_bipush (v := 9) hx hb dX13_scan_211 (by decide) ?_
                      refine lv_icmp_gt (tgt := 220) hx hb dX13_scan_213 (by decide) (fun c435 => ?_) (fun c435 => ?_)
                      · have c435 : (9 : Int) < (y429).toInt := hq_lti.mp c435
                        refine lv_iconst (v := 0) hx hb dX13_scan_220 (by decide) ?_
                        refine lv_istore_n (lv' := [(2, .int (0)), (1, .int (r283)), (0, .ref (mo))]) hx hb dX13_scan_221 rfl hl (by decide) rfl (fun ls hl => ?_)
                        refine lv_aload_n hx hb dX13_scan_222 rfl (lv_at hl 2 rfl) ?_
                        refine lv_iload_n hx hb dX13_scan_223 rfl (lv_at hl 0 rfl) ?_
                        refine lv_if_eq (tgt := 231) hx hb dX13_scan_224 (by decide) (fun c436 => ?_) (fun c436 => absurd (by decide) c436)
                        refine lv_iconst (v := 5) hx hb dX13_scan_231 (by decide) ?_
                        refine hp_put hx hb hts hown hZ ho384 fp_X13_83 rfl rfl (Nat.le_of_ble_eq_true rfl) dX13_scan_232 (fun V437 _ _ e438 o439 hZ => ?_)
                        have e438 : V437 (mo) = some (.inr (13, hm_o q (m_tp) (m_sz) (bh9) (bh162) (5) (m_ft) (m_fa) (m_le) (m_fo) (m_as) (m_fd) (m_bc) (m_bg) (m_bs) (m_be) (m_b0) (m_b1) (m_cm) (m_hc))) := e438
                        have hP := hP.put hmo e438 o439 (trivial) rfl
                        refine lv_aload_n hx hb dX13_scan_235 rfl (lv_at hl 2 rfl) ?_
                        refine lv_dup hx hb dX13_scan_236 rfl ?_
                        refine hp_get (v := .int (bh162)) hx hb hts hown hZ e438 fl_X13_76 rfl dX13_scan_237 ?_
                        refine lv_iconst (v := 1) hx hb dX13_scan_240 (by decide) ?_
                        refine lv_iadd hx hb dX13_scan_241 ?_
                        refine lv_topi (fun y440 ey441 => ?_)
                        obtain ⟨k442, hk443, b444, b445⟩ := hq_add (bh162) (1)
                        rw [← ey441] at hk443 b444 b445
                        have hk443 : (y440).toInt = (bh162).toInt + (1 : Int) + k442 * 4294967296 := hk443
                        obtain rfl : k442 = 0 := by omega
                        refine hp_put hx hb hts hown hZ e438 fp_X13_76 rfl rfl (Nat.le_of_ble_eq_true rfl) dX13_scan_242 (fun V446 _ _ e447 o448 hZ => ?_)
                        have e447 : V446 (mo) = some (.inr (13, hm_o q (m_tp) (m_sz) (bh9) (y440) (5) (m_ft) (m_fa) (m_le) (m_fo) (m_as) (m_fd) (m_bc) (m_bg) (m_bs) (m_be) (m_b0) (m_b1) (m_cm) (m_hc))) := e447
                        have hP := hP.put hmo e447 o448 (trivial) rfl
                        refine lv_goto (tgt := 320) hx hb dX13_scan_245 (by decide) ?_
                        have hl449 : (5 : Int32).toInt = 5 := by decide
                        obtain ⟨h8, h9⟩ := sp_c_quote (w := w) (p := sp_pos w j) (by omega) (by omega)
                        rw [if_neg (by omega)] at h9
                        exact hp_vret hx hb hr hlocks hZ ⟨rfl, hP, (fun x8 hne0 => (o448 x8 hne0).trans ((o439 x8 hne0).trans (fr162 x8 hne0))), bh9, y440, 5, e447, ⟨by omega, by show _ = sp_S w (sp_pos w j); omega, by show _ = sp_h (sp_K w (sp_pos w j)); unfold sp_h; (repeat (first | (rw [if_pos]; rotate_left; omega) | (rw [if_neg]; rotate_left; omega))); omega, fun h7 => by show _ = sp_E w (sp_pos w j); have h6 : sp_K w (sp_pos w j) ≤ 20 := h7; omega⟩, (by omega : 0 ≤ (y440).toInt ∧ (y440).toInt ≤ w.2 + 1)⟩ dX13_scan_320
                      · have c435 : ¬ (9 : Int) < (y429).toInt := fun h9 => c435 (hq_lti.mpr h9)
                        refine lv_iconst (v := 1) hx hb dX13_scan_216 (by decide) ?_
                        refine lv_goto (tgt := 221) hx hb dX13_scan_217 (by decide) ?_
                        refine lv_istore_n (lv' := [(2, .int (1)), (1, .int (r283)), (0, .ref (mo))]) hx hb dX13_scan_221 rfl hl (by decide) rfl (fun ls hl => ?_)
                        refine lv_aload_n hx hb dX13_scan_222 rfl (lv_at hl 2 rfl) ?_
                        refine lv_iload_n hx hb dX13_scan_223 rfl (lv_at hl 0 rfl) ?_
                        refine lv_if_eq (tgt := 231) hx hb dX13_scan_224 (by decide) (fun c450 => absurd c450 (by decide)) (fun c450 => ?_)
                        refine lv_iconst (v := 3) hx hb dX13_scan_227 (by decide) ?_
                        refine lv_goto (tgt := 232) hx hb dX13_scan_228 (by decide) ?_
                        refine hp_put hx hb hts hown hZ ho384 fp_X13_83 rfl rfl (Nat.le_of_ble_eq_true rfl) dX13_scan_232 (fun V451 _ _ e452 o453 hZ => ?_)
                        have e452 : V451 (mo) = some (.inr (13, hm_o q (m_tp) (m_sz) (bh9) (bh162) (3) (m_ft) (m_fa) (m_le) (m_fo) (m_as) (m_fd) (m_bc) (m_bg) (m_bs) (m_be) (m_b0) (m_b1) (m_cm) (m_hc))) := e452
                        have hP := hP.put hmo e452 o453 (trivial) rfl
                        refine lv_aload_n hx hb dX13_scan_235 rfl (lv_at hl 2 rfl) ?_
                        refine lv_dup hx hb dX13_scan_236 rfl ?_
                        refine hp_get (v := .int (bh162)) hx hb hts hown hZ e452 fl_X13_76 rfl dX13_scan_237 ?_
                        refine lv_iconst (v := 1) hx hb dX13_scan_240 (by decide) ?_
                        refine lv_iadd hx hb dX13_scan_241 ?_
                        refine lv_topi (fun y454 ey455 => ?_)
                        obtain ⟨k456, hk457, b458, b459⟩ := hq_add (bh162) (1)
                        rw [← ey455] at hk457 b458 b459
                        have hk457 : (y454).toInt = (bh162).toInt + (1 : Int) + k456 * 4294967296 := hk457
                        obtain rfl : k456 = 0 := by omega
                        refine hp_put hx hb hts hown hZ e452 fp_X13_76 rfl rfl (Nat.le_of_ble_eq_true rfl) dX13_scan_242 (fun V460 _ _ e461 o462 hZ => ?_)
                        have e461 : V460 (mo) = some (.inr (13, hm_o q (m_tp) (m_sz) (bh9) (y454) (3) (m_ft) (m_fa) (m_le) (m_fo) (m_as) (m_fd) (m_bc) (m_bg) (m_bs) (m_be) (m_b0) (m_b1) (m_cm) (m_hc))) := e461
                        have hP := hP.put hmo e461 o462 (trivial) rfl
                        refine lv_goto (tgt := 320) hx hb dX13_scan_245 (by decide) ?_
                        have hl463 : (3 : Int32).toInt = 3 := by decide
                        obtain ⟨h8, h9⟩ := sp_c_quote (w := w) (p := sp_pos w j) (by omega) (by omega)
                        rw [if_pos (by omega)] at h9
                        exact hp_vret hx hb hr hlocks hZ ⟨rfl, hP, (fun x8 hne0 => (o462 x8 hne0).trans ((o453 x8 hne0).trans (fr162 x8 hne0))), bh9, y454, 3, e461, ⟨by omega, by show _ = sp_S w (sp_pos w j); omega, by show _ = sp_h (sp_K w (sp_pos w j)); unfold sp_h; (repeat (first | (rw [if_pos]; rotate_left; omega) | (rw [if_neg]; rotate_left; omega))); omega, fun h7 => by show _ = sp_E w (sp_pos w j); have h6 : sp_K w (sp_pos w j) ≤ 20 := h7; omega⟩, (by omega : 0 ≤ (y454).toInt ∧ (y454).toInt ≤ w.2 + 1)⟩ dX13_scan_320
                  · have c405 : ¬ (r400).toInt = (0 : Int) := fun h9 => c405 (hq_eqi.mpr h9)
                    refine lv_aload_n hx hb dX13_scan_176 rfl (lv_at hl 1 rfl) ?_
                    refine lv_dup hx hb dX13_scan_177 rfl ?_
                    refine hp_get (v := .int (bh162)) hx hb hts hown hZ ho384 fl_X13_76 rfl dX13_scan_178 ?_
                    refine lv_iconst (v := 1) hx hb dX13_scan_181 (by decide) ?_
                    refine lv_iadd hx hb dX13_scan_182 ?_
                    refine lv_topi (fun y464 ey465 => ?_)
                    obtain ⟨k466, hk467, b468, b469⟩ := hq_add (bh162) (1)
                    rw [← ey465] at hk467 b468 b469
                    have hk467 : (y464).toInt = (bh162).toInt + (1 : Int) + k466 * 4294967296 := hk467
                    obtain rfl : k466 = 0 := by omega
                    refine hp_put hx hb hts hown hZ ho384 fp_X13_76 rfl rfl (Nat.le_of_ble_eq_true rfl) dX13_scan_183 (fun V470 _ _ e471 o472 hZ => ?_)
                    have e471 : V470 (mo) = some (.inr (13, hm_o q (m_tp) (m_sz) (bh9) (y464) (m_hd) (m_ft) (m_fa) (m_le) (m_fo) (m_as) (m_fd) (m_bc) (m_bg) (m_bs) (m_be) (m_b0) (m_b1) (m_cm) (m_hc))) := e471
                    have hP := hP.put hmo e471 o472 (trivial) rfl
                    refine lv_goto (tgt := 162) hx hb dX13_scan_186 (by decide) ?_
                    have pk473 := pk386.keep (o472 (q + 20) (hq_tne (hr_20 hR) hmo (by simp)))
                    exact ih162 _ (by omega) _ _ _ ls  (y464) rfl hZ hP e471 (fun x8 hne0 => (o472 x8 hne0).trans (fr162 x8 hne0)) pk473 (by omega) (by omega) (by rw [← hrun162, sp_run_step (i := bh162.toInt) (by omega) (sp_rg_t (by omega)), show (y464).toInt = bh162.toInt + 1 by omega]) (lv_sub hl [0, 1] rfl)
            · have c306 : ¬ (r301).toInt = (0 : Int) := fun h9 => c306 (hq_eqi.mpr h9)
              have pk475 := pk279.keep (o297 (q + 20) (hq_tne (hr_20 hR) hmo (by simp)))
              suffices lp103 : ∀ (k9 : Nat) (V9 : hp_V) (H9 : Heap) (locs9 : List Loc) (ls : Array Slot)  (bh103 : Int32), (5000 - bh103.toInt).toNat = k9 → hp_Z D cs B s V9 H9 n locs9 → hq_P cs G (fun _ => true) V V9 → V9 (mo) = some (.inr (13, hm_o q (m_tp) (m_sz) (bh9) (bh103) (m_hd) (m_ft) (m_fa) (m_le) (m_fo) (m_as) (m_fd) (m_bc) (m_bg) (m_bs) (m_be) (m_b0) (m_b1) (m_cm) (m_hc))) → (∀ x, x ≠ mo → V9 x = V x) → hm_TP cs V9 q w → bh9.toInt + 1 ≤ bh103.toInt → bh103.toInt ≤ w.2 → (sp_run (sp_rg w.1 97 122) w.2 bh103.toInt = sp_run (sp_rg w.1 97 122) w.2 ((sp_S w (sp_pos w j)) + 1)) → lv_has ls 3 [(1, .int (r283)), (0, .ref (mo))] → W p l e ({ frames := 2, cells := 0, slots := 0, locals := 42 }) s m ([.ref (mo)] : List Value).toArray below meth c H9 locs9 0 0 (MQ below (hp_QV D cs B (fun V' n' => n = n' ∧ hq_P cs G (fun _ => true) V V' ∧ (∀ x, x ≠ mo → V' x = V x) ∧ (∃ m_fr1 : Int32, ∃ m_bh1 : Int32, ∃ m_hd1 : Int32, V' (mo) = some (.inr (13, hm_o q (m_tp) (m_sz) (m_fr1) (m_bh1) (m_hd1) (m_ft) (m_fa) (m_le) (m_fo) (m_as) (m_fd) (m_bc) (m_bg) (m_bs) (m_be) (m_b0) (m_b1) (m_cm) (m_hc))) ∧ (hm_A w j m_fr1 m_bh1 m_hd1) ∧ (0 ≤ m_bh1.toInt ∧ m_bh1.toInt ≤ w.2 + 1)))) ([.ref (mo)] : List Value).toArray s 0 0 (hp_F B)) (F0 m 103 ls []) from lp103 _ _ _ _ ls  (y289) rfl hZ hP e296 (fun x8 hne0 => (o297 x8 hne0).trans ((o278 x8 hne0).trans (fr0 x8 hne0))) pk475 (by omega) (by omega) (by rw [show (y289).toInt = (sp_S w (sp_pos w j)) + 1 by omega]) (lv_sub hl [0, 1] rfl)
              intro k9
              induction k9 using Nat.strongRecOn with
              | _ k9 ih103 =>
                intro V9 H9 locs9 ls   bh103 hk103 hZ hP ho474 fr103 pk476 hv477 hv478 hrun103 hl
                have hb_bh103 := hq_rng bh103
                refine lv_aload_n hx hb dX13_scan_103 rfl (lv_at hl 1 rfl) ?_
                refine lv_aload_n hx hb dX13_scan_104 rfl (lv_at hl 1 rfl) ?_
                refine hp_get (v := .int (bh103)) hx hb hts hown hZ ho474 fl_X13_76 rfl dX13_scan_105 ?_
                refine hp_calli (hp_runV (As := [.int (bh103)]) (rest := []) hx hb hml hown hts (y_byteAt l D cs B G V9 n hP.1 (q) (mo) (w) (m_tp) (m_sz) (bh9) (bh103) (m_hd) (m_ft) (m_fa) (m_le) (m_fo) (m_as) (m_fd) (m_bc) (m_bg) (m_bs) (m_be) (m_b0) (m_b1) (m_cm) (m_hc) (bh103)  ho474 pk476 hR hmo (by omega) (by omega)) hZ ho474 cv_X13_79 rfl rfl ⟨Nat.le_of_ble_eq_true rfl, Nat.le_of_ble_eq_true rfl⟩ rfl hl.1 rfl (Nat.le_of_ble_eq_true rfl) dX13_scan_108 ⟨(Nat.le_of_ble_eq_true rfl), (Nat.le_of_ble_eq_true rfl)⟩) hZ (fun r482 V479 n480 _ _ hw481 hZ => ?_)
                obtain ⟨rfl, rfl, hp485⟩ := hw481
                have b486 := hq_rng r482
                refine hp_calli (hp_runS (As := [.int (r482)]) (rest := []) hx hb hml hown hts (y_isSmall l D cs B G V9 n hP.1 (r482)    ) hZ cv_X13_86 rfl rfl ⟨Nat.le_of_ble_eq_true rfl, Nat.le_of_ble_eq_true rfl⟩ rfl hl.1 rfl (Nat.le_of_ble_eq_true rfl) dX13_scan_111 ⟨(Nat.le_of_ble_eq_true rfl), (Nat.le_of_ble_eq_true rfl)⟩) hZ (fun r490 V487 n488 _ _ hw489 hZ => ?_)
                obtain ⟨rfl, rfl, hp493⟩ := hw489
                have b494 := hq_rng r490
                refine lv_if_eq (tgt := 130) hx hb dX13_scan_114 (by decide) (fun c495 => ?_) (fun c495 => ?_)
                · have c495 : (r490).toInt = (0 : Int) := hq_eqi.mp c495
                  have hE103 : sp_run (sp_rg w.1 97 122) w.2 ((sp_S w (sp_pos w j)) + 1) = bh103.toInt := hrun103.symm.trans (sp_run_stop (sp_rg_f (by omega)))
                  have hbE : w.1 (sp_run (sp_rg w.1 97 122) w.2 ((sp_S w (sp_pos w j)) + 1)) = w.1 bh103.toInt := by rw [hE103]
                  refine lv_aload_n hx hb dX13_scan_130 rfl (lv_at hl 1 rfl) ?_
                  refine lv_aload_n hx hb dX13_scan_131 rfl (lv_at hl 1 rfl) ?_
                  refine hp_get (v := .int (bh103)) hx hb hts hown hZ ho474 fl_X13_76 rfl dX13_scan_132 ?_
                  refine lv_aload_n hx hb dX13_scan_135 rfl (lv_at hl 1 rfl) ?_
                  refine hp_get (v := .int (bh9)) hx hb hts hown hZ ho474 fl_X13_60 rfl dX13_scan_136 ?_
                  refine lv_isub hx hb dX13_scan_139 ?_
                  refine lv_topi (fun y496 ey497 => ?_)
                  obtain ⟨k498, hk499, b500, b501⟩ := hq_sub (bh103) (bh9)
                  rw [← ey497] at hk499 b500 b501
                  have hk499 : (y496).toInt = (bh103).toInt - (bh9).toInt + k498 * 4294967296 := hk499
                  obtain rfl : k498 = 0 := by omega
                  refine lv_bipush (v := 12) hx hb dX13_scan_140 (by decide) ?_
                  refine lv_icmp_le (tgt := 149) hx hb dX13_scan_142 (by decide) (fun c502 => ?_) (fun c502 => ?_)
                  · have c502 : (y496).toInt ≤ (12 : Int) := hq_lei.mp c502
                    refine lv_iconst (v := 1) hx hb dX13_scan_149 (by decide) ?_
                    refine hp_put hx hb hts hown hZ ho474 fp_X13_83 rfl rfl (Nat.le_of_ble_eq_true rfl) dX13_scan_150 (fun V503 _ _ e504 o505 hZ => ?_)
                    have e504 : V503 (mo) = some (.inr (13, hm_o q (m_tp) (m_sz) (bh9) (bh103) (1) (m_ft) (m_fa) (m_le) (m_fo) (m_as) (m_fd) (m_bc) (m_bg) (m_bs) (m_be) (m_b0) (m_b1) (m_cm) (m_hc))) := e504
                    have hP := hP.put hmo e504 o505 (trivial) rfl
                    refine lv_goto (tgt := 320) hx hb dX13_scan_153 (by decide) ?_
                    have hl506 : (1 : Int32).toInt = 1 := by decide
                    obtain ⟨h8, h9⟩ := sp_c_word (w := w) (p := sp_pos w j) (by omega) (by omega)
                    rw [sp_run_step (p := sp_rg w.1 97 122) (z := w.2) (i := (sp_S w (sp_pos w j))) (by omega) (sp_rg_t (by omega))] at h8 h9
                    rw [if_pos (by omega)] at h9
                    have hwl := sp_wn_le w.1 (sp_S w (sp_pos w j)) (sp_run (sp_rg w.1 97 122) w.2 ((sp_S w (sp_pos w j)) + 1))
                    exact hp_vret hx hb hr hlocks hZ ⟨rfl, hP, (fun x8 hne0 => (o505 x8 hne0).trans (fr103 x8 hne0)), bh9, bh103, 1, e504, ⟨by omega, by show _ = sp_S w (sp_pos w j); omega, by show _ = sp_h (sp_K w (sp_pos w j)); unfold sp_h; (repeat (first | (rw [if_pos]; rotate_left; omega) | (rw [if_neg]; rotate_left; omega))); omega, fun h7 => by show _ = sp_E w (sp_pos w j); have h6 : sp_K w (sp_pos w j) ≤ 20 := h7; omega⟩, (by omega : 0 ≤ (bh103).toInt ∧ (bh103).toInt ≤ w.2 + 1)⟩ dX13_scan_320
                  · have c502 : ¬ (y496).toInt ≤ (12 : Int) := fun h9 => c502 (hq_lei.mpr h9)
                    refine lv_iconst (v := 5) hx hb dX13_scan_145 (by decide) ?_
                    refine lv_goto (tgt := 150) hx hb dX13_scan_146 (by decide) ?_
                    refine hp_put hx hb hts hown hZ ho474 fp_X13_83 rfl rfl (Nat.le_of_ble_eq_true rfl) dX13_scan_150 (fun V507 _ _ e508 o509 hZ => ?_)
                    have e508 : V507 (mo) = some (.inr (13, hm_o q (m_tp) (m_sz) (bh9) (bh103) (5) (m_ft) (m_fa) (m_le) (m_fo) (m_as) (m_fd) (m_bc) (m_bg) (m_bs) (m_be) (m_b0) (m_b1) (m_cm) (m_hc))) := e508
                    have hP := hP.put hmo e508 o509 (trivial) rfl
                    refine lv_goto (tgt := 320) hx hb dX13_scan_153 (by decide) ?_
                    have hl510 : (5 : Int32).toInt = 5 := by decide
                    obtain ⟨h8, h9⟩ := sp_c_word (w := w) (p := sp_pos w j) (by omega) (by omega)
                    rw [sp_run_step (p := sp_rg w.1 97 122) (z := w.2) (i := (sp_S w (sp_pos w j))) (by omega) (sp_rg_t (by omega))] at h8 h9
                    rw [if_neg (by omega)] at h9
                    exact hp_vret hx hb hr hlocks hZ ⟨rfl, hP, (fun x8 hne0 => (o509 x8 hne0).trans (fr103 x8 hne0)), bh9, bh103, 5, e508, ⟨by omega, by show _ = sp_S w (sp_pos w j); omega, by show _ = sp_h (sp_K w (sp_pos w j)); unfold sp_h; (repeat (first | (rw [if_pos]; rotate_left; omega) | (rw [if_neg]; rotate_left; omega))); omega, fun h7 => by show _ = sp_E w (sp_pos w j); have h6 : sp_K w (sp_pos w j) ≤ 20 := h7; omega⟩, (by omega : 0 ≤ (bh103).toInt ∧ (bh103).toInt ≤ w.2 + 1)⟩ dX13_scan_320
                · have c495 : ¬ (r490).toInt = (0 : Int) := fun h9 => c495 (hq_eqi.mpr h9)
                  refine lv_aload_n hx hb dX13_scan_117 rfl (lv_at hl 1 rfl) ?_
                  refine lv_dup hx hb dX13_scan_118 rfl ?_
                  refine hp_get (v := .int (bh103)) hx hb hts hown hZ ho474 fl_X13_76 rfl dX13_scan_119 ?_
                  refine lv_iconst (v := 1) hx hb dX13_scan_122 (by decide) ?_
                  refine lv_iadd hx hb dX13_scan_123 ?_
                  refine lv_topi (fun y511 ey512 => ?_)
                  obtain ⟨k513, hk514, b515, b516⟩ := hq_add (bh103) (1)
                  rw [← ey512] at hk514 b515 b516
                  have hk514 : (y511).toInt = (bh103).toInt + (1 : Int) + k513 * 4294967296 := hk514
                  obtain rfl : k513 = 0 := by omega
                  refine hp_put hx hb hts hown hZ ho474 fp_X13_76 rfl rfl (Nat.le_of_ble_eq_true rfl) dX13_scan_124 (fun V517 _ _ e518 o519 hZ => ?_)
                  have e518 : V517 (mo) = some (.inr (13, hm_o q (m_tp) (m_sz) (bh9) (y511) (m_hd) (m_ft) (m_fa) (m_le) (m_fo) (m_as) (m_fd) (m_bc) (m_bg) (m_bs) (m_be) (m_b0) (m_b1) (m_cm) (m_hc))) := e518
                  have hP := hP.put hmo e518 o519 (trivial) rfl
                  refine lv_goto (tgt := 103) hx hb dX13_scan_127 (by decide) ?_
                  have pk520 := pk476.keep (o519 (q + 20) (hq_tne (hr_20 hR) hmo (by simp)))
                  exact ih103 _ (by omega) _ _ _ ls  (y511) rfl hZ hP e518 (fun x8 hne0 => (o519 x8 hne0).trans (fr103 x8 hne0)) pk520 (by omega) (by omega) (by rw [← hrun103, sp_run_step (i := bh103.toInt) (by omega) (sp_rg_t (by omega)), show (y511).toInt = bh103.toInt + 1 by omega]) (lv_sub hl [0, 1] rfl)
          · have c288 : (bh9).toInt = (m_sz).toInt := hq_eqi.mp c288
            refine lv_aload_n hx hb dX13_scan_80 rfl (lv_at hl 1 rfl) ?_
            refine lv_iconst (v := 0) hx hb dX13_scan_81 (by decide) ?_
            refine hp_put hx hb hts hown hZ e277 fp_X13_83 rfl rfl (Nat.le_of_ble_eq_true rfl) dX13_scan_82 (fun V521 _ _ e522 o523 hZ => ?_)
            have e522 : V521 (mo) = some (.inr (13, hm_o q (m_tp) (m_sz) (bh9) (bh9) (0) (m_ft) (m_fa) (m_le) (m_fo) (m_as) (m_fd) (m_bc) (m_bg) (m_bs) (m_be) (m_b0) (m_b1) (m_cm) (m_hc))) := e522
            have hP := hP.put hmo e522 o523 (trivial) rfl
            have hl524 : (0 : Int32).toInt = 0 := by decide
            obtain ⟨h8, h9⟩ := sp_c_end (w := w) (p := sp_pos w j) (by omega)
            exact hp_vret hx hb hr hlocks hZ ⟨rfl, hP, (fun x8 hne0 => (o523 x8 hne0).trans ((o278 x8 hne0).trans (fr0 x8 hne0))), bh9, bh9, 0, e522, ⟨by omega, by show _ = sp_S w (sp_pos w j); omega, by show _ = sp_h (sp_K w (sp_pos w j)); unfold sp_h; (repeat (first | (rw [if_pos]; rotate_left; omega) | (rw [if_neg]; rotate_left; omega))); omega, fun h7 => by show _ = sp_E w (sp_pos w j); have h6 : sp_K w (sp_pos w j) ≤ 20 := h7; omega⟩, (by omega : 0 ≤ (bh9).toInt ∧ (bh9).toInt ≤ w.2 + 1)⟩ dX13_scan_85
        · have c275 : (y271).toInt = (10 : Int) := hq_eqi.mp c275
          refine lv_aload_n hx hb dX13_scan_39 rfl (lv_at hl 0 rfl) ?_
          refine lv_dup hx hb dX13_scan_40 rfl ?_
          refine hp_get (v := .int (bh9)) hx hb hts hown hZ ho1 fl_X13_76 rfl dX13_scan_41 ?_
          refine lv_iconst (v := 1) hx hb dX13_scan_44 (by decide) ?_
          refine lv_iadd hx hb dX13_scan_45 ?_
          refine lv_topi (fun y525 ey526 => ?_)
          obtain ⟨k527, hk528, b529, b530⟩ := hq_add (bh9) (1)
          rw [← ey526] at hk528 b529 b530
          have hk528 : (y525).toInt = (bh9).toInt + (1 : Int) + k527 * 4294967296 := hk528
          obtain rfl : k527 = 0 := by omega
          refine hp_put hx hb hts hown hZ ho1 fp_X13_76 rfl rfl (Nat.le_of_ble_eq_true rfl) dX13_scan_46 (fun V531 _ _ e532 o533 hZ => ?_)
          have e532 : V531 (mo) = some (.inr (13, hm_o q (m_tp) (m_sz) (m_fr) (y525) (m_hd) (m_ft) (m_fa) (m_le) (m_fo) (m_as) (m_fd) (m_bc) (m_bg) (m_bs) (m_be) (m_b0) (m_b1) (m_cm) (m_hc))) := e532
          have hP := hP.put hmo e532 o533 (trivial) rfl
          refine lv_goto (tgt := 0) hx hb dX13_scan_49 (by decide) ?_
          have pk534 := pk2.keep (o533 (q + 20) (hq_tne (hr_20 hR) hmo (by simp)))
          exact ih0 _ (by omega) _ _ _ ls  (y525) rfl hZ hP e532 (fun x8 hne0 => (o533 x8 hne0).trans (fr0 x8 hne0)) pk534 (by omega) (by omega) (by rw [← hrun, sp_run_step (i := bh9.toInt) (by omega) (sp_ws_t (by omega)), show (y525).toInt = bh9.toInt + 1 by omega]) (lv_sub hl [0] rfl)

set_option maxHeartbeats 4000000 in
set_option maxRecDepth 100000 in
theorem t_X13_in (l : Launch) (D : va_G) (cs : Nat → ClassId) (B : Nat) (G : hq_G) (V : hp_V) (n : Nat) (hI : hq_I cs G V) (v : Int64) (lo : Int64) (hi : Int64) : hp_M l yX13_in cX13_in 6 (some .boolean) ({ frames := 1, cells := 0, slots := 0, locals := 21 }) D cs B V n [.long (v), .long (lo), .long (hi)] (hp_QI D cs B (fun r V' n' => n = n' ∧ hq_P cs G (fun _ => false) V V' ∧ ((r.toInt = 1 ∧ lo.toInt ≤ v.toInt ∧ v.toInt ≤ hi.toInt) ∨ (r.toInt = 0 ∧ ¬ (lo.toInt ≤ v.toInt ∧ v.toInt ≤ hi.toInt))))) 0 0 := by
  refine hp_walk (R0 := RX13) (by decide) rfl ?_ (Nat.le_of_ble_eq_true rfl)
  intro p e s m below meth c ls hx hb hr hts hown hlocks hin hml hZ hl
  have hP : hq_P cs G (fun _ => false) V V := hq_P.rf hI
  have hl : lv_has ls 6 [(0, .long (v)), (2, .long (lo)), (4, .long (hi))] := hl
  refine lv_lload_n hx hb dX13_in_0 rfl (lv_at hl 0 rfl) ?_
  refine lv_lload_n hx hb dX13_in_1 rfl (lv_at hl 1 rfl) ?_
  refine W.lcmp hx hb dX13_in_2 ?_
  refine lv_topi (fun y1 ey2 => ?_)
  have b3 := hm_cmp (v) (lo)
  rw [← ey2] at b3
  refine lv_if_lt (tgt := 17) hx hb dX13_in_3 (by decide) (fun c4 => ?_) (fun c4 => ?_)
  · have c4 : (y1).toInt < (0 : Int) := hq_lti.mp c4
    refine lv_iconst (v := 0) hx hb dX13_in_17 (by decide) ?_
    exact hp_zret hx hb hr rfl hlocks hZ ⟨rfl, hP, (Or.inr ⟨by decide, by omega⟩)⟩ dX13_in_18
  · have c4 : ¬ (y1).toInt < (0 : Int) := fun h9 => c4 (hq_lti.mpr h9)
    refine lv_lload_n hx hb dX13_in_6 rfl (lv_at hl 0 rfl) ?_
    refine lv_lload hx hb dX13_in_7 (lv_at hl 2 rfl) ?_
    refine W.lcmp hx hb dX13_in_9 ?_
    refine lv_topi (fun y5 ey6 => ?_)
    have b7 := hm_cmp (v) (hi)
    rw [← ey6] at b7
    refine lv_if_gt (tgt := 17) hx hb dX13_in_10 (by decide) (fun c8 => ?_) (fun c8 => ?_)
    · have c8 : (0 : Int) < (y5).toInt := hq_lti.mp c8
      refine lv_iconst (v := 0) hx hb dX13_in_17 (by decide) ?_
      exact hp_zret hx hb hr rfl hlocks hZ ⟨rfl, hP, (Or.inr ⟨by decide, by omega⟩)⟩ dX13_in_18
    · have c8 : ¬ (0 : Int) < (y5).toInt := fun h9 => c8 (hq_lti.mpr h9)
      refine lv_iconst (v := 1) hx hb dX13_in_13 (by decide) ?_
      refine lv_goto (tgt := 18) hx hb dX13_in_14 (by decide) ?_
      exact hp_zret hx hb hr rfl hlocks hZ ⟨rfl, hP, (Or.inl ⟨by decide, by omega, by omega⟩)⟩ dX13_in_18

set_option maxHeartbeats 4000000 in
set_option maxRecDepth 100000 in
theorem t_X13_isFigure (l : Launch) (D : va_G) (cs : Nat → ClassId) (B : Nat) (G : hq_G) (V : hp_V) (n : Nat) (hI : hq_I cs G V) (k : Int32) : hp_M l yX13_isFigure cX13_isFigure 1 (some .boolean) ({ frames := 1, cells := 0, slots := 0, locals := 21 }) D cs B V n [.int (k)] (hp_QI D cs B (fun r V' n' => n = n' ∧ hq_P cs G (fun _ => false) V V' ∧ (r.toInt = 0 ∨ (r.toInt = 1 ∧ 48 ≤ k.toInt ∧ k.toInt ≤ 57)))) 0 0 := by
  refine hp_walk (R0 := RX13) (by decide) rfl ?_ (Nat.le_of_ble_eq_true rfl)
  intro p e s m below meth c ls hx hb hr hts hown hlocks hin hml hZ hl
  have hP : hq_P cs G (fun _ => false) V V := hq_P.rf hI
  have hl : lv_has ls 1 [(0, .int (k))] := hl
  have hb_k := hq_rng k
  refine lv_iload_n hx hb dX13_isFigure_0 rfl (lv_at hl 0 rfl) ?_
  refine lv_bipush (v := 48) hx hb dX13_isFigure_1 (by decide) ?_
  refine lv_icmp_lt (tgt := 16) hx hb dX13_isFigure_3 (by decide) (fun c1 => ?_) (fun c1 => ?_)
  · have c1 : (k).toInt < (48 : Int) := hq_lti.mp c1
    refine lv_iconst (v := 0) hx hb dX13_isFigure_16 (by decide) ?_
    exact hp_zret hx hb hr rfl hlocks hZ ⟨rfl, hP, (Or.inl (by decide))⟩ dX13_isFigure_17
  · have c1 : ¬ (k).toInt < (48 : Int) := fun h9 => c1 (hq_lti.mpr h9)
    refine lv_iload_n hx hb dX13_isFigure_6 rfl (lv_at hl 0 rfl) ?_
    refine lv_bipush (v := 57) hx hb dX13_isFigure_7 (by decide) ?_
    refine lv_icmp_gt (tgt := 16) hx hb dX13_isFigure_9 (by decide) (fun c2 => ?_) (fun c2 => ?_)
    · have c2 : (57 : Int) < (k).toInt := hq_lti.mp c2
      refine lv_iconst (v := 0) hx hb dX13_isFigure_16 (by decide) ?_
      exact hp_zret hx hb hr rfl hlocks hZ ⟨rfl, hP, (Or.inl (by decide))⟩ dX13_isFigure_17
    · have c2 : ¬ (57 : Int) < (k).toInt := fun h9 => c2 (hq_lti.mpr h9)
      refine lv_iconst (v := 1) hx hb dX13_isFigure_12 (by decide) ?_
      refine lv_goto (tgt := 17) hx hb dX13_isFigure_13 (by decide) ?_
      exact hp_zret hx hb hr rfl hlocks hZ ⟨rfl, hP, (Or.inr ⟨by decide, by omega, by omega⟩)⟩ dX13_isFigure_17

set_option maxHeartbeats 4000000 in
set_option maxRecDepth 100000 in
theorem t_X13_isSmall (l : Launch) (D : va_G) (cs : Nat → ClassId) (B : Nat) (G : hq_G) (V : hp_V) (n : Nat) (hI : hq_I cs G V) (k : Int32) : hp_M l yX13_isSmall cX13_isSmall 1 (some .boolean) ({ frames := 1, cells := 0, slots := 0, locals := 21 }) D cs B V n [.int (k)] (hp_QI D cs B (fun r V' n' => n = n' ∧ hq_P cs G (fun _ => false) V V' ∧ (r.toInt = 0 ∨ (r.toInt = 1 ∧ 97 ≤ k.toInt ∧ k.toInt ≤ 122)))) 0 0 := by
  refine hp_walk (R0 := RX13) (by decide) rfl ?_ (Nat.le_of_ble_eq_true rfl)
  intro p e s m below meth c ls hx hb hr hts hown hlocks hin hml hZ hl
  have hP : hq_P cs G (fun _ => false) V V := hq_P.rf hI
  have hl : lv_has ls 1 [(0, .int (k))] := hl
  have hb_k := hq_rng k
  refine lv_iload_n hx hb dX13_isSmall_0 rfl (lv_at hl 0 rfl) ?_
  refine lv_bipush (v := 97) hx hb dX13_isSmall_1 (by decide) ?_
  refine lv_icmp_lt (tgt := 16) hx hb dX13_isSmall_3 (by decide) (fun c1 => ?_) (fun c1 => ?_)
  · have c1 : (k).toInt < (97 : Int) := hq_lti.mp c1
    refine lv_iconst (v := 0) hx hb dX13_isSmall_16 (by decide) ?_
    exact hp_zret hx hb hr rfl hlocks hZ ⟨rfl, hP, (Or.inl (by decide))⟩ dX13_isSmall_17
  · have c1 : ¬ (k).toInt < (97 : Int) := fun h9 => c1 (hq_lti.mpr h9)
    refine lv_iload_n hx hb dX13_isSmall_6 rfl (lv_at hl 0 rfl) ?_
    refine lv_bipush (v := 122) hx hb dX13_isSmall_7 (by decide) ?_
    refine lv_icmp_gt (tgt := 16) hx hb dX13_isSmall_9 (by decide) (fun c2 => ?_) (fun c2 => ?_)
    · have c2 : (122 : Int) < (k).toInt := hq_lti.mp c2
      refine lv_iconst (v := 0) hx hb dX13_isSmall_16 (by decide) ?_
      exact hp_zret hx hb hr rfl hlocks hZ ⟨rfl, hP, (Or.inl (by decide))⟩ dX13_isSmall_17
    · have c2 : ¬ (122 : Int) < (k).toInt := fun h9 => c2 (hq_lti.mpr h9)
      refine lv_iconst (v := 1) hx hb dX13_isSmall_12 (by decide) ?_
      refine lv_goto (tgt := 17) hx hb dX13_isSmall_13 (by decide) ?_
      exact hp_zret hx hb hr rfl hlocks hZ ⟨rfl, hP, (Or.inr ⟨by decide, by omega, by omega⟩)⟩ dX13_isSmall_17

set_option maxHeartbeats 4000000 in
set_option maxRecDepth 100000 in
theorem t_X13_wrong (l : Launch) (D : va_G) (cs : Nat → ClassId) (B : Nat) (G : hq_G) (V : hp_V) (n : Nat) (hI : hq_I cs G V) (q : Nat) (hR : hq_RT G q) (m : Nat) (h_m : G m = some (24, 0, 0, 0)) (k : Int32) {m_tp m_sz m_fr m_bh m_hd m_ft m_fa m_le m_fo m_as m_fd m_bc m_bg m_bs m_be m_b0 m_b1 m_cm m_hc : Int32} (ho_m : V m = some (.inr (13, hm_o q (m_tp) (m_sz) (m_fr) (m_bh) (m_hd) (m_ft) (m_fa) (m_le) (m_fo) (m_as) (m_fd) (m_bc) (m_bg) (m_bs) (m_be) (m_b0) (m_b1) (m_cm) (m_hc)))) (hi_m0 : 0 ≤ m_tp.toInt ∧ m_tp.toInt ≤ 4000) (hi_m1 : 0 ≤ m_sz.toInt ∧ m_sz.toInt ≤ 4000) (hi_m2 : 0 ≤ m_le.toInt ∧ m_le.toInt ≤ 276) (hi_m3 : 0 ≤ m_fo.toInt ∧ m_fo.toInt ≤ 4) (hi_m4 : 0 ≤ m_as.toInt ∧ m_as.toInt ≤ 4000) (hi_m5 : 0 ≤ m_fd.toInt ∧ m_fd.toInt ≤ 900) (hi_m6 : 0 ≤ m_cm.toInt ∧ m_cm.toInt ≤ 2) (hi_m7 : 0 ≤ m_hc.toInt ∧ m_hc.toInt ≤ 1) : hp_M l yX13_wrong cX13_wrong 2 (some (.object "VerbSchoolModel$Stop")) ({ frames := 1, cells := 0, slots := 0, locals := 21 }) D cs B V n [.ref (m), .int (k)] (hp_QR D cs B (fun r V' n' => n = n' ∧ hq_P cs G (fun g => g.1 == 1) V V' ∧ (∃ (m_ft1 : Int32) (m_fa1 : Int32), V' m = some (.inr (13, hm_o q (m_tp) (m_sz) (m_fr) (m_bh) (m_hd) (m_ft1) (m_fa1) (m_le) (m_fo) (m_as) (m_fd) (m_bc) (m_bg) (m_bs) (m_be) (m_b0) (m_b1) (m_cm) (m_hc)))) ∧ (r = some (q + 19)))) 0 0 := by
  refine hp_walk (R0 := RX13) (by decide) rfl ?_ (Nat.le_of_ble_eq_true rfl)
  intro p e s m below meth c ls hx hb hr hts hown hlocks hin hml hZ hl
  have hP : hq_P cs G (fun g => g.1 == 1) V V := hq_P.rf hI
  have hl : lv_has ls 2 [(0, .ref (m)), (1, .int (k))] := hl
  have hb_k := hq_rng k
  have hb_m_tp := hq_rng m_tp
  have hb_m_sz := hq_rng m_sz
  have hb_m_fr := hq_rng m_fr
  have hb_m_bh := hq_rng m_bh
  have hb_m_hd := hq_rng m_hd
  have hb_m_ft := hq_rng m_ft
  have hb_m_fa := hq_rng m_fa
  have hb_m_le := hq_rng m_le
  have hb_m_fo := hq_rng m_fo
  have hb_m_as := hq_rng m_as
  have hb_m_fd := hq_rng m_fd
  have hb_m_bc := hq_rng m_bc
  have hb_m_bg := hq_rng m_bg
  have hb_m_bs := hq_rng m_bs
  have hb_m_be := hq_rng m_be
  have hb_m_b0 := hq_rng m_b0
  have hb_m_b1 := hq_rng m_b1
  have hb_m_cm := hq_rng m_cm
  have hb_m_hc := hq_rng m_hc
  refine lv_aload_n hx hb dX13_wrong_0 rfl (lv_at hl 0 rfl) ?_
  refine lv_iload_n hx hb dX13_wrong_1 rfl (lv_at hl 1 rfl) ?_
  refine hp_put hx hb hts hown hZ ho_m fp_X13_56 rfl rfl (Nat.le_of_ble_eq_true rfl) dX13_wrong_2 (fun V1 _ _ e2 o3 hZ => ?_)
  have e2 : V1 (m) = some (.inr (13, hm_o q (m_tp) (m_sz) (m_fr) (m_bh) (m_hd) (k) (m_fa) (m_le) (m_fo) (m_as) (m_fd) (m_bc) (m_bg) (m_bs) (m_be) (m_b0) (m_b1) (m_cm) (m_hc))) := e2
  have hP := hP.put h_m e2 o3 (trivial) rfl
  refine lv_aload_n hx hb dX13_wrong_5 rfl (lv_at hl 0 rfl) ?_
  refine lv_aload_n hx hb dX13_wrong_6 rfl (lv_at hl 0 rfl) ?_
  refine hp_get (v := .int (m_fr)) hx hb hts hown hZ e2 fl_X13_60 rfl dX13_wrong_7 ?_
  refine hp_put hx hb hts hown hZ e2 fp_X13_63 rfl rfl (Nat.le_of_ble_eq_true rfl) dX13_wrong_10 (fun V4 _ _ e5 o6 hZ => ?_)
  have e5 : V4 (m) = some (.inr (13, hm_o q (m_tp) (m_sz) (m_fr) (m_bh) (m_hd) (k) (m_fr) (m_le) (m_fo) (m_as) (m_fd) (m_bc) (m_bg) (m_bs) (m_be) (m_b0) (m_b1) (m_cm) (m_hc))) := e5
  have hP := hP.put h_m e5 o6 (trivial) rfl
  refine lv_aload_n hx hb dX13_wrong_13 rfl (lv_at hl 0 rfl) ?_
  refine hp_get (v := .ref (q + 19)) hx hb hts hown hZ e5 fl_X13_66 rfl dX13_wrong_14 ?_
  exact hp_aret (r := some (q + 19)) hx hb hr (Or.inl ⟨_, rfl⟩) hlocks hZ ⟨rfl, hP, ⟨k, m_fr, e5⟩, rfl⟩ dX13_wrong_17

set_option maxHeartbeats 4000000 in
set_option maxRecDepth 100000 in
theorem t_X13_byteAt (l : Launch) (D : va_G) (cs : Nat → ClassId) (B : Nat) (G : hq_G) (V : hp_V) (n : Nat) (hI : hq_I cs G V) (q : Nat) (hR : hq_RT G q) (m : Nat) (h_m : G m = some (24, 0, 0, 0)) (k : Int32) {m_tp m_sz m_fr m_bh m_hd m_ft m_fa m_le m_fo m_as m_fd m_bc m_bg m_bs m_be m_b0 m_b1 m_cm m_hc : Int32} (ho_m : V m = some (.inr (13, hm_o q (m_tp) (m_sz) (m_fr) (m_bh) (m_hd) (m_ft) (m_fa) (m_le) (m_fo) (m_as) (m_fd) (m_bc) (m_bg) (m_bs) (m_be) (m_b0) (m_b1) (m_cm) (m_hc)))) (hi_m0 : 0 ≤ m_tp.toInt ∧ m_tp.toInt ≤ 4000) (hi_m1 : 0 ≤ m_sz.toInt ∧ m_sz.toInt ≤ 4000) (hi_m2 : 0 ≤ m_le.toInt ∧ m_le.toInt ≤ 276) (hi_m3 : 0 ≤ m_fo.toInt ∧ m_fo.toInt ≤ 4) (hi_m4 : 0 ≤ m_as.toInt ∧ m_as.toInt ≤ 4000) (hi_m5 : 0 ≤ m_fd.toInt ∧ m_fd.toInt ≤ 900) (hi_m6 : 0 ≤ m_cm.toInt ∧ m_cm.toInt ≤ 2) (hi_m7 : 0 ≤ m_hc.toInt ∧ m_hc.toInt ≤ 1) (hk0 : 0 ≤ k.toInt) : hp_M l yX13_byteAt cX13_byteAt 2 (some .int) ({ frames := 1, cells := 0, slots := 0, locals := 21 }) D cs B V n [.ref (m), .int (k)] (hp_QI D cs B (fun r V' n' => n = n' ∧ hq_P cs G (fun _ => false) V V' ∧ (V' m = some (.inr (13, hm_o q (m_tp) (m_sz) (m_fr) (m_bh) (m_hd) (m_ft) (m_fa) (m_le) (m_fo) (m_as) (m_fd) (m_bc) (m_bg) (m_bs) (m_be) (m_b0) (m_b1) (m_cm) (m_hc)))) ∧ (r.toInt = 0 ∨ k.toInt < m_sz.toInt))) 0 0 := by
  refine hp_walk (R0 := RX13) (by decide) rfl ?_ (Nat.le_of_ble_eq_true rfl)
  intro p e s m below meth c ls hx hb hr hts hown hlocks hin hml hZ hl
  have hP : hq_P cs G (fun _ => false) V V := hq_P.rf hI
  have hl : lv_has ls 2 [(0, .ref (m)), (1, .int (k))] := hl
  have hb_k := hq_rng k
  have hb_m_tp := hq_rng m_tp
  have hb_m_sz := hq_rng m_sz
  have hb_m_fr := hq_rng m_fr
  have hb_m_bh := hq_rng m_bh
  have hb_m_hd := hq_rng m_hd
  have hb_m_ft := hq_rng m_ft
  have hb_m_fa := hq_rng m_fa
  have hb_m_le := hq_rng m_le
  have hb_m_fo := hq_rng m_fo
  have hb_m_as := hq_rng m_as
  have hb_m_fd := hq_rng m_fd
  have hb_m_bc := hq_rng m_bc
  have hb_m_bg := hq_rng m_bg
  have hb_m_bs := hq_rng m_bs
  have hb_m_be := hq_rng m_be
  have hb_m_b0 := hq_rng m_b0
  have hb_m_b1 := hq_rng m_b1
  have hb_m_cm := hq_rng m_cm
  have hb_m_hc := hq_rng m_hc
  refine lv_iload_n hx hb dX13_byteAt_0 rfl (lv_at hl 1 rfl) ?_
  refine lv_aload_n hx hb dX13_byteAt_1 rfl (lv_at hl 0 rfl) ?_
  refine hp_get (v := .int (m_sz)) hx hb hts hown hZ ho_m fl_X13_70 rfl dX13_byteAt_2 ?_
  refine lv_icmp_ge (tgt := 21) hx hb dX13_byteAt_5 (by decide) (fun c1 => ?_) (fun c1 => ?_)
  · have c1 : (m_sz).toInt ≤ (k).toInt := hq_lei.mp c1
    refine lv_iconst (v := 0) hx hb dX13_byteAt_21 (by decide) ?_
    exact hp_iret hx hb hr hlocks hZ ⟨rfl, hP, ho_m, (Or.inl (by decide))⟩ dX13_byteAt_22
  · have c1 : ¬ (m_sz).toInt ≤ (k).toInt := fun h9 => c1 (hq_lei.mpr h9)
    refine lv_aload_n hx hb dX13_byteAt_8 rfl (lv_at hl 0 rfl) ?_
    refine hp_get (v := .ref (q + 20)) hx hb hts hown hZ ho_m fl_X13_73 rfl dX13_byteAt_9 ?_
    refine lv_iload_n hx hb dX13_byteAt_12 rfl (lv_at hl 1 rfl) ?_
    obtain ⟨hN4, g3, eV2⟩ := hq_o20 hP.1 (hr_20 hR)
    refine hp_bald hx hb hZ eV2 (hq_in (by omega) (by omega)) dX13_byteAt_13 ?_
    refine lv_topi (fun y6 ey7 => ?_)
    have b8 := hq_rng y6
    refine lv_sipush (v := 255) hx hb dX13_byteAt_14 (by decide) ?_
    refine lv_iand hx hb dX13_byteAt_17 ?_
    refine lv_topi (fun y9 ey10 => ?_)
    have b11 := hq_rng y9
    refine lv_goto (tgt := 22) hx hb dX13_byteAt_18 (by decide) ?_
    exact hp_iret hx hb hr hlocks hZ ⟨rfl, hP, ho_m, (by omega)⟩ dX13_byteAt_22

set_option maxHeartbeats 4000000 in
set_option maxRecDepth 100000 in
theorem t_X13_scan (l : Launch) (D : va_G) (cs : Nat → ClassId) (B : Nat) (G : hq_G) (V : hp_V) (n : Nat) (hI : hq_I cs G V) (q : Nat) (hR : hq_RT G q) (m : Nat) (h_m : G m = some (24, 0, 0, 0)) {m_tp m_sz m_fr m_bh m_hd m_ft m_fa m_le m_fo m_as m_fd m_bc m_bg m_bs m_be m_b0 m_b1 m_cm m_hc : Int32} (ho_m : V m = some (.inr (13, hm_o q (m_tp) (m_sz) (m_fr) (m_bh) (m_hd) (m_ft) (m_fa) (m_le) (m_fo) (m_as) (m_fd) (m_bc) (m_bg) (m_bs) (m_be) (m_b0) (m_b1) (m_cm) (m_hc)))) (hi_m0 : 0 ≤ m_tp.toInt ∧ m_tp.toInt ≤ 4000) (hi_m1 : 0 ≤ m_sz.toInt ∧ m_sz.toInt ≤ 4000) (hi_m2 : 0 ≤ m_le.toInt ∧ m_le.toInt ≤ 276) (hi_m3 : 0 ≤ m_fo.toInt ∧ m_fo.toInt ≤ 4) (hi_m4 : 0 ≤ m_as.toInt ∧ m_as.toInt ≤ 4000) (hi_m5 : 0 ≤ m_fd.toInt ∧ m_fd.toInt ≤ 900) (hi_m6 : 0 ≤ m_cm.toInt ∧ m_cm.toInt ≤ 2) (hi_m7 : 0 ≤ m_hc.toInt ∧ m_hc.toInt ≤ 1) (hs0 : 0 ≤ m_bh.toInt) (hs1 : m_bh.toInt ≤ m_sz.toInt) : hp_M l yX13_scan cX13_scan 3 none ({ frames := 2, cells := 0, slots := 0, locals := 42 }) D cs B V n [.ref (m)] (hp_QV D cs B (fun V' n' => n = n' ∧ hq_P cs G (fun g => g.1 == 1) V V' ∧ (∃ (m_fr1 : Int32) (m_bh1 : Int32) (m_hd1 : Int32), V' m = some (.inr (13, hm_o q (m_tp) (m_sz) (m_fr1) (m_bh1) (m_hd1) (m_ft) (m_fa) (m_le) (m_fo) (m_as) (m_fd) (m_bc) (m_bg) (m_bs) (m_be) (m_b0) (m_b1) (m_cm) (m_hc))) ∧ ((0 ≤ m_fr1.toInt ∧ m_fr1.toInt ≤ m_sz.toInt) ∧ (0 ≤ m_bh1.toInt ∧ m_bh1.toInt ≤ m_sz.toInt + 1) ∧ (m_bh1.toInt ≤ m_sz.toInt ∨ m_hd1.toInt = 5) ∧ (¬ m_hd1.toInt = 1 ∨ (m_fr1.toInt + 1 ≤ m_bh1.toInt ∧ m_bh1.toInt ≤ m_fr1.toInt + 12)) ∧ (¬ m_hd1.toInt = 3 ∨ (m_fr1.toInt + 2 ≤ m_bh1.toInt ∧ m_bh1.toInt ≤ m_fr1.toInt + 10)) ∧ (¬ m_hd1.toInt = 2 ∨ m_bh1.toInt = m_fr1.toInt + 1))))) 0 0 := by
  refine hp_walk (R0 := RX13) (by decide) rfl ?_ (Nat.le_of_ble_eq_true rfl)
  intro p e s m below meth c ls hx hb hr hts hown hlocks hin hml hZ hl
  have hP : hq_P cs G (fun g => g.1 == 1) V V := hq_P.rf hI
  have hl : lv_has ls 3 [(0, .ref (m))] := hl
  have hb_m_tp := hq_rng m_tp
  have hb_m_sz := hq_rng m_sz
  have hb_m_fr := hq_rng m_fr
  have hb_m_bh := hq_rng m_bh
  have hb_m_hd := hq_rng m_hd
  have hb_m_ft := hq_rng m_ft
  have hb_m_fa := hq_rng m_fa
  have hb_m_le := hq_rng m_le
  have hb_m_fo := hq_rng m_fo
  have hb_m_as := hq_rng m_as
  have hb_m_fd := hq_rng m_fd
  have hb_m_bc := hq_rng m_bc
  have hb_m_bg := hq_rng m_bg
  have hb_m_bs := hq_rng m_bs
  have hb_m_be := hq_rng m_be
  have hb_m_b0 := hq_rng m_b0
  have hb_m_b1 := hq_rng m_b1
  have hb_m_cm := hq_rng m_cm
  have hb_m_hc := hq_rng m_hc
  suffices lp0 : ∀ (k9 : Nat) (V9 : hp_V) (H9 : Heap) (locs9 : List Loc) (ls : Array Slot)  (bh9 : Int32), (5000 - bh9.toInt).toNat = k9 → hp_Z D cs B s V9 H9 n locs9 → hq_P cs G (fun g => g.1 == 1) V V9 → V9 (m) = some (.inr (13, hm_o q (m_tp) (m_sz) (m_fr) (bh9) (m_hd) (m_ft) (m_fa) (m_le) (m_fo) (m_as) (m_fd) (m_bc) (m_bg) (m_bs) (m_be) (m_b0) (m_b1) (m_cm) (m_hc))) → 0 ≤ bh9.toInt → bh9.toInt ≤ m_sz.toInt → lv_has ls 3 [(0, .ref (m))] → W p l e ({ frames := 2, cells := 0, slots := 0, locals := 42 }) s m ([.ref (m)] : List Value).toArray below meth c H9 locs9 0 0 (MQ below (hp_QV D cs B (fun V' n' => n = n' ∧ hq_P cs G (fun g => g.1 == 1) V V' ∧ (∃ (m_fr1 : Int32) (m_bh1 : Int32) (m_hd1 : Int32), V' m = some (.inr (13, hm_o q (m_tp) (m_sz) (m_fr1) (m_bh1) (m_hd1) (m_ft) (m_fa) (m_le) (m_fo) (m_as) (m_fd) (m_bc) (m_bg) (m_bs) (m_be) (m_b0) (m_b1) (m_cm) (m_hc))) ∧ ((0 ≤ m_fr1.toInt ∧ m_fr1.toInt ≤ m_sz.toInt) ∧ (0 ≤ m_bh1.toInt ∧ m_bh1.toInt ≤ m_sz.toInt + 1) ∧ (m_bh1.toInt ≤ m_sz.toInt ∨ m_hd1.toInt = 5) ∧ (¬ m_hd1.toInt = 1 ∨ (m_fr1.toInt + 1 ≤ m_bh1.toInt ∧ m_bh1.toInt ≤ m_fr1.toInt + 12)) ∧ (¬ m_hd1.toInt = 3 ∨ (m_fr1.toInt + 2 ≤ m_bh1.toInt ∧ m_bh1.toInt ≤ m_fr1.toInt + 10)) ∧ (¬ m_hd1.toInt = 2 ∨ m_bh1.toInt = m_fr1.toInt + 1))))) ([.ref (m)] : List Value).toArray s 0 0 (hp_F B)) (F0 m 0 ls []) from lp0 _ _ _ _ ls  (m_bh) rfl hZ hP ho_m (by omega) (by omega) (lv_sub hl [0] rfl)
  intro k9
  induction k9 using Nat.strongRecOn with
  | _ k9 ih0 =>
    intro V9 H9 locs9 ls  bh9 hk0 hZ hP ho1 hv2 hv3 hl
    have hb_bh9 := hq_rng bh9
    have hP_0 := hP
    refine lv_aload_n hx hb dX13_scan_0 rfl (lv_at hl 0 rfl) ?_
    refine hp_get (v := .int (bh9)) hx hb hts hown hZ ho1 fl_X13_76 rfl dX13_scan_1 ?_
    refine lv_aload_n hx hb dX13_scan_4 rfl (lv_at hl 0 rfl) ?_
    refine hp_get (v := .int (m_sz)) hx hb hts hown hZ ho1 fl_X13_70 rfl dX13_scan_5 ?_
    refine lv_icmp_ge (tgt := 52) hx hb dX13_scan_8 (by decide) (fun c4 => ?_) (fun c4 => ?_)
    · have c4 : (m_sz).toInt ≤ (bh9).toInt := hq_lei.mp c4
      refine lv_aload_n hx hb dX13_scan_52 rfl (lv_at hl 0 rfl) ?_
      refine lv_aload_n hx hb dX13_scan_53 rfl (lv_at hl 0 rfl) ?_
      refine hp_get (v := .int (bh9)) hx hb hts hown hZ ho1 fl_X13_76 rfl dX13_scan_54 ?_
      refine hp_put hx hb hts hown hZ ho1 fp_X13_60 rfl rfl (Nat.le_of_ble_eq_true rfl) dX13_scan_57 (fun V5 _ _ e6 o7 hZ => ?_)
      have e6 : V5 (m) = some (.inr (13, hm_o q (m_tp) (m_sz) (bh9) (bh9) (m_hd) (m_ft) (m_fa) (m_le) (m_fo) (m_as) (m_fd) (m_bc) (m_bg) (m_bs) (m_be) (m_b0) (m_b1) (m_cm) (m_hc))) := e6
      have hP := hP.put h_m e6 o7 (trivial) rfl
      refine lv_aload_n hx hb dX13_scan_60 rfl (lv_at hl 0 rfl) ?_
      refine lv_aload_n hx hb dX13_scan_61 rfl (lv_at hl 0 rfl) ?_
      refine hp_get (v := .int (bh9)) hx hb hts hown hZ e6 fl_X13_60 rfl dX13_scan_62 ?_
      refine hp_calli (hp_runV (As := [.int (bh9)]) (rest := []) hx hb hml hown hts (t_X13_byteAt l D cs B G  V5 n hP.1 q hR (m) h_m (bh9) e6  (by omega) (by omega) (by omega) (by omega) (by omega) (by omega) (by omega) (by omega) (by omega)) hZ e6 cv_X13_79 rfl rfl ⟨Nat.le_of_ble_eq_true rfl, Nat.le_of_ble_eq_true rfl⟩ rfl hl.1 rfl (Nat.le_of_ble_eq_true rfl) dX13_scan_65 ⟨(Nat.le_of_ble_eq_true rfl), (Nat.le_of_ble_eq_true rfl)⟩) hZ (fun r11 V8 n9 _ _ hw10 hZ => ?_)
      obtain ⟨rfl, hq12, ho14, hr13⟩ := hw10
      have hP := hP.trans hq12 (fun _ _ => rfl)
      have b15 := hq_rng r11
      refine lv_istore_n (lv' := [(1, .int (r11)), (0, .ref (m))]) hx hb dX13_scan_68 rfl hl (by decide) rfl (fun ls hl => ?_)
      refine lv_aload_n hx hb dX13_scan_69 rfl (lv_at hl 1 rfl) ?_
      refine hp_get (v := .int (bh9)) hx hb hts hown hZ ho14 fl_X13_60 rfl dX13_scan_70 ?_
      refine lv_aload_n hx hb dX13_scan_73 rfl (lv_at hl 1 rfl) ?_
      refine hp_get (v := .int (m_sz)) hx hb hts hown hZ ho14 fl_X13_70 rfl dX13_scan_74 ?_
      refine lv_icmp_ne (tgt := 86) hx hb dX13_scan_77 (by decide) (fun c16 => ?_) (fun c16 => ?_)
      · have c16 : ¬ (bh9).toInt = (m_sz).toInt := fun h9 => c16 (hq_eqi.mpr h9)
        refine lv_aload_n hx hb dX13_scan_86 rfl (lv_at hl 1 rfl) ?_
        refine lv_dup hx hb dX13_scan_87 rfl ?_
        refine hp_get (v := .int (bh9)) hx hb hts hown hZ ho14 fl_X13_76 rfl dX13_scan_88 ?_
        refine lv_iconst (v := 1) hx hb dX13_scan_91 (by decide) ?_
        refine lv_iadd hx hb dX13_scan_92 ?_
        refine lv_topi (fun y17 ey18 => ?_)
        obtain ⟨k19, hk20, b21, b22⟩ := hq_add (bh9) (1)
        rw [← ey18] at hk20 b21 b22
        have hk20 : (y17).toInt = (bh9).toInt + (1 : Int) + k19 * 4294967296 := hk20
        obtain rfl : k19 = 0 := by omega
        refine hp_put hx hb hts hown hZ ho14 fp_X13_76 rfl rfl (Nat.le_of_ble_eq_true rfl) dX13_scan_93 (fun V23 _ _ e24 o25 hZ => ?_)
        have e24 : V23 (m) = some (.inr (13, hm_o q (m_tp) (m_sz) (bh9) (y17) (m_hd) (m_ft) (m_fa) (m_le) (m_fo) (m_as) (m_fd) (m_bc) (m_bg) (m_bs) (m_be) (m_b0) (m_b1) (m_cm) (m_hc))) := e24
        have hP := hP.put h_m e24 o25 (trivial) rfl
        refine lv_iload_n hx hb dX13_scan_96 rfl (lv_at hl 0 rfl) ?_
        refine hp_calli (hp_runS (As := [.int (r11)]) (rest := []) hx hb hml hown hts (t_X13_isSmall l D cs B G  V23 n hP.1  (r11) ) hZ cv_X13_86 rfl rfl ⟨Nat.le_of_ble_eq_true rfl, Nat.le_of_ble_eq_true rfl⟩ rfl hl.1 rfl (Nat.le_of_ble_eq_true rfl) dX13_scan_97 ⟨(Nat.le_of_ble_eq_true rfl), (Nat.le_of_ble_eq_true rfl)⟩) hZ (fun r29 V26 n27 _ _ hw28 hZ => ?_)
        obtain ⟨rfl, hq30, hr31⟩ := hw28
        have hP := hP.trans hq30 (fun _ _ => rfl)
        have b32 := hq_rng r29
        refine lv_if_eq (tgt := 156) hx hb dX13_scan_100 (by decide) (fun c33 => ?_) (fun c33 => ?_)
        · have c33 : (r29).toInt = (0 : Int) := hq_eqi.mp c33
          refine lv_iload_n hx hb dX13_scan_156 rfl (lv_at hl 0 rfl) ?_
          refine lv_bipush (v := 39) hx hb dX13_scan_157 (by decide) ?_
          refine lv_icmp_ne (tgt := 248) hx hb dX13_scan_159 (by decide) (fun c34 => ?_) (fun c34 => ?_)
          · have c34 : ¬ (r11).toInt = (39 : Int) := fun h9 => c34 (hq_eqi.mpr h9)
            refine lv_iload_n hx hb dX13_scan_248 rfl (lv_at hl 0 rfl) ?_
            refine hp_calli (hp_runS (As := [.int (r11)]) (rest := []) hx hb hml hown hts (t_X13_isFigure l D cs B G  V26 n hP.1  (r11) ) hZ cv_X13_90 rfl rfl ⟨Nat.le_of_ble_eq_true rfl, Nat.le_of_ble_eq_true rfl⟩ rfl hl.1 rfl (Nat.le_of_ble_eq_true rfl) dX13_scan_249 ⟨(Nat.le_of_ble_eq_true rfl), (Nat.le_of_ble_eq_true rfl)⟩) hZ (fun r38 V35 n36 _ _ hw37 hZ => ?_)
            obtain ⟨rfl, hq39, hr40⟩ := hw37
            have hP := hP.trans hq39 (fun _ _ => rfl)
            have b41 := hq_rng r38
            refine lv_istore_n (lv' := [(2, .int (r38)), (1, .int (r11)), (0, .ref (m))]) hx hb dX13_scan_252 rfl hl (by decide) rfl (fun ls hl => ?_)
            have fx42 : V35 (m) = some (.inr (13, hm_o q (m_tp) (m_sz) (bh9) (y17) (m_hd) (m_ft) (m_fa) (m_le) (m_fo) (m_as) (m_fd) (m_bc) (m_bg) (m_bs) (m_be) (m_b0) (m_b1) (m_cm) (m_hc))) := (hq39.2 (m) _ h_m rfl).trans ((hq30.2 (m) _ h_m rfl).trans (e24))
            suffices lp253 : ∀ (k9 : Nat) (V9 : hp_V) (H9 : Heap) (locs9 : List Loc) (ls : Array Slot)  (bh8 : Int32), (5000 - bh8.toInt).toNat = k9 → hp_Z D cs B s V9 H9 n locs9 → hq_P cs G (fun g => g.1 == 1) V V9 → V9 (m) = some (.inr (13, hm_o q (m_tp) (m_sz) (bh9) (bh8) (m_hd) (m_ft) (m_fa) (m_le) (m_fo) (m_as) (m_fd) (m_bc) (m_bg) (m_bs) (m_be) (m_b0) (m_b1) (m_cm) (m_hc))) → bh9.toInt + 1 ≤ bh8.toInt → bh8.toInt ≤ m_sz.toInt → lv_has ls 3 [(2, .int (r38)), (1, .int (r11)), (0, .ref (m))] → W p l e ({ frames := 2, cells := 0, slots := 0, locals := 42 }) s m ([.ref (m)] : List Value).toArray below meth c H9 locs9 0 0 (MQ below (hp_QV D cs B (fun V' n' => n = n' ∧ hq_P cs G (fun g => g.1 == 1) V V' ∧ (∃ (m_fr1 : Int32) (m_bh1 : Int32) (m_hd1 : Int32), V' m = some (.inr (13, hm_o q (m_tp) (m_sz) (m_fr1) (m_bh1) (m_hd1) (m_ft) (m_fa) (m_le) (m_fo) (m_as) (m_fd) (m_bc) (m_bg) (m_bs) (m_be) (m_b0) (m_b1) (m_cm) (m_hc))) ∧ ((0 ≤ m_fr1.toInt ∧ m_fr1.toInt ≤ m_sz.toInt) ∧ (0 ≤ m_bh1.toInt ∧ m_bh1.toInt ≤ m_sz.toInt + 1) ∧ (m_bh1.toInt ≤ m_sz.toInt ∨ m_hd1.toInt = 5) ∧ (¬ m_hd1.toInt = 1 ∨ (m_fr1.toInt + 1 ≤ m_bh1.toInt ∧ m_bh1.toInt ≤ m_fr1.toInt + 12)) ∧ (¬ m_hd1.toInt = 3 ∨ (m_fr1.toInt + 2 ≤ m_bh1.toInt ∧ m_bh1.toInt ≤ m_fr1.toInt + 10)) ∧ (¬ m_hd1.toInt = 2 ∨ m_bh1.toInt = m_fr1.toInt + 1))))) ([.ref (m)] : List Value).toArray s 0 0 (hp_F B)) (F0 m 253 ls []) from lp253 _ _ _ _ ls  (y17) rfl hZ hP fx42 (by omega) (by omega) (lv_sub hl [0, 1, 2] rfl)
            intro k9
            induction k9 using Nat.strongRecOn with
            | _ k9 ih253 =>
              intro V9 H9 locs9 ls  bh8 hk253 hZ hP ho43 hv44 hv45 hl
              have hb_bh8 := hq_rng bh8
              have hP_253 := hP
              refine lv_iload_n hx hb dX13_scan_253 rfl (lv_at hl 0 rfl) ?_
              refine lv_if_eq (tgt := 284) hx hb dX13_scan_254 (by decide) (fun c46 => ?_) (fun c46 => ?_)
              · have c46 : (r38).toInt = (0 : Int) := hq_eqi.mp c46
                refine lv_aload_n hx hb dX13_scan_284 rfl (lv_at hl 2 rfl) ?_
                refine lv_iload_n hx hb dX13_scan_285 rfl (lv_at hl 0 rfl) ?_
                refine lv_if_eq (tgt := 306) hx hb dX13_scan_286 (by decide) (fun c47 => ?_) (fun c47 => ?_)
                · have c47 : (r38).toInt = (0 : Int) := hq_eqi.mp c47
                  refine lv_iload_n hx hb dX13_scan_306 rfl (lv_at hl 1 rfl) ?_
                  refine lv_bipush (v := 59) hx hb dX13_scan_307 (by decide) ?_
                  refine lv_icmp_ne (tgt := 316) hx hb dX13_scan_309 (by decide) (fun c48 => ?_) (fun c48 => ?_)
                  · have c48 : ¬ (r11).toInt = (59 : Int) := fun h9 => c48 (hq_eqi.mpr h9)
                    refine lv_iconst (v := 5) hx hb dX13_scan_316 (by decide) ?_
                    refine hp_put hx hb hts hown hZ ho43 fp_X13_83 rfl rfl (Nat.le_of_ble_eq_true rfl) dX13_scan_317 (fun V49 _ _ e50 o51 hZ => ?_)
                    have e50 : V49 (m) = some (.inr (13, hm_o q (m_tp) (m_sz) (bh9) (bh8) (5) (m_ft) (m_fa) (m_le) (m_fo) (m_as) (m_fd) (m_bc) (m_bg) (m_bs) (m_be) (m_b0) (m_b1) (m_cm) (m_hc))) := e50
                    have hP := hP.put h_m e50 o51 (trivial) rfl
                    have hl52 : (5 : Int32).toInt = 5 := by decide
                    exact hp_vret hx hb hr hlocks hZ ⟨rfl, hP, ⟨bh9, bh8, 5, e50, by omega⟩⟩ dX13_scan_320
                  · have c48 : (r11).toInt = (59 : Int) := hq_eqi.mp c48
                    refine lv_iconst (v := 4) hx hb dX13_scan_312 (by decide) ?_
                    refine lv_goto (tgt := 317) hx hb dX13_scan_313 (by decide) ?_
                    refine hp_put hx hb hts hown hZ ho43 fp_X13_83 rfl rfl (Nat.le_of_ble_eq_true rfl) dX13_scan_317 (fun V53 _ _ e54 o55 hZ => ?_)
                    have e54 : V53 (m) = some (.inr (13, hm_o q (m_tp) (m_sz) (bh9) (bh8) (4) (m_ft) (m_fa) (m_le) (m_fo) (m_as) (m_fd) (m_bc) (m_bg) (m_bs) (m_be) (m_b0) (m_b1) (m_cm) (m_hc))) := e54
                    have hP := hP.put h_m e54 o55 (trivial) rfl
                    have hl56 : (4 : Int32).toInt = 4 := by decide
                    exact hp_vret hx hb hr hlocks hZ ⟨rfl, hP, ⟨bh9, bh8, 4, e54, by omega⟩⟩ dX13_scan_320
                · have c47 : ¬ (r38).toInt = (0 : Int) := fun h9 => c47 (hq_eqi.mpr h9)
                  refine lv_aload_n hx hb dX13_scan_289 rfl (lv_at hl 2 rfl) ?_
                  refine hp_get (v := .int (bh8)) hx hb hts hown hZ ho43 fl_X13_76 rfl dX13_scan_290 ?_
                  refine lv_aload_n hx hb dX13_scan_293 rfl (lv_at hl 2 rfl) ?_
                  refine hp_get (v := .int (bh9)) hx hb hts hown hZ ho43 fl_X13_60 rfl dX13_scan_294 ?_
                  refine lv_isub hx hb dX13_scan_297 ?_
                  refine lv_topi (fun y57 ey58 => ?_)
                  obtain ⟨k59, hk60, b61, b62⟩ := hq_sub (bh8) (bh9)
                  rw [← ey58] at hk60 b61 b62
                  have hk60 : (y57).toInt = (bh8).toInt - (bh9).toInt + k59 * 4294967296 := hk60
                  obtain rfl : k59 = 0 := by omega
                  refine lv_iconst (v := 1) hx hb dX13_scan_298 (by decide) ?_
                  refine lv_icmp_ne (tgt := 306) hx hb dX13_scan_299 (by decide) (fun c63 => ?_) (fun c63 => ?_)
                  · have c63 : ¬ (y57).toInt = (1 : Int) := fun h9 => c63 (hq_eqi.mpr h9)
                    refine lv_iload_n hx hb dX13_scan_306 rfl (lv_at hl 1 rfl) ?_
                    refine lv_bipush (v := 59) hx hb dX13_scan_307 (by decide) ?_
                    refine lv_icmp_ne (tgt := 316) hx hb dX13_scan_309 (by decide) (fun c64 => ?_) (fun c64 => ?_)
                    · have c64 : ¬ (r11).toInt = (59 : Int) := fun h9 => c64 (hq_eqi.mpr h9)
                      refine lv_iconst (v := 5) hx hb dX13_scan_316 (by decide) ?_
                      refine hp_put hx hb hts hown hZ ho43 fp_X13_83 rfl rfl (Nat.le_of_ble_eq_true rfl) dX13_scan_317 (fun V65 _ _ e66 o67 hZ => ?_)
                      have e66 : V65 (m) = some (.inr (13, hm_o q (m_tp) (m_sz) (bh9) (bh8) (5) (m_ft) (m_fa) (m_le) (m_fo) (m_as) (m_fd) (m_bc) (m_bg) (m_bs) (m_be) (m_b0) (m_b1) (m_cm) (m_hc))) := e66
                      have hP := hP.put h_m e66 o67 (trivial) rfl
                      have hl68 : (5 : Int32).toInt = 5 := by decide
                      exact hp_vret hx hb hr hlocks hZ ⟨rfl, hP, ⟨bh9, bh8, 5, e66, by omega⟩⟩ dX13_scan_320
                    · have c64 : (r11).toInt = (59 : Int) := hq_eqi.mp c64
                      refine lv_iconst (v := 4) hx hb dX13_scan_312 (by decide) ?_
                      refine lv_goto (tgt := 317) hx hb dX13_scan_313 (by decide) ?_
                      refine hp_put hx hb hts hown hZ ho43 fp_X13_83 rfl rfl (Nat.le_of_ble_eq_true rfl) dX13_scan_317 (fun V69 _ _ e70 o71 hZ => ?_)
                      have e70 : V69 (m) = some (.inr (13, hm_o q (m_tp) (m_sz) (bh9) (bh8) (4) (m_ft) (m_fa) (m_le) (m_fo) (m_as) (m_fd) (m_bc) (m_bg) (m_bs) (m_be) (m_b0) (m_b1) (m_cm) (m_hc))) := e70
                      have hP := hP.put h_m e70 o71 (trivial) rfl
                      have hl72 : (4 : Int32).toInt = 4 := by decide
                      exact hp_vret hx hb hr hlocks hZ ⟨rfl, hP, ⟨bh9, bh8, 4, e70, by omega⟩⟩ dX13_scan_320
                  · have c63 : (y57).toInt = (1 : Int) := hq_eqi.mp c63
                    refine lv_iconst (v := 2) hx hb dX13_scan_302 (by decide) ?_
                    refine lv_goto (tgt := 317) hx hb dX13_scan_303 (by decide) ?_
                    refine hp_put hx hb hts hown hZ ho43 fp_X13_83 rfl rfl (Nat.le_of_ble_eq_true rfl) dX13_scan_317 (fun V73 _ _ e74 o75 hZ => ?_)
                    have e74 : V73 (m) = some (.inr (13, hm_o q (m_tp) (m_sz) (bh9) (bh8) (2) (m_ft) (m_fa) (m_le) (m_fo) (m_as) (m_fd) (m_bc) (m_bg) (m_bs) (m_be) (m_b0) (m_b1) (m_cm) (m_hc))) := e74
                    have hP := hP.put h_m e74 o75 (trivial) rfl
                    have hl76 : (2 : Int32).toInt = 2 := by decide
                    exact hp_vret hx hb hr hlocks hZ ⟨rfl, hP, ⟨bh9, bh8, 2, e74, by omega⟩⟩ dX13_scan_320
              · have c46 : ¬ (r38).toInt = (0 : Int) := fun h9 => c46 (hq_eqi.mpr h9)
                refine lv_aload_n hx hb dX13_scan_257 rfl (lv_at hl 2 rfl) ?_
                refine lv_aload_n hx hb dX13_scan_258 rfl (lv_at hl 2 rfl) ?_
                refine hp_get (v := .int (bh8)) hx hb hts hown hZ ho43 fl_X13_76 rfl dX13_scan_259 ?_
                refine hp_calli (hp_runV (As := [.int (bh8)]) (rest := []) hx hb hml hown hts (t_X13_byteAt l D cs B G  V9 n hP.1 q hR (m) h_m (bh8) ho43  (by omega) (by omega) (by omega) (by omega) (by omega) (by omega) (by omega) (by omega) (by omega)) hZ ho43 cv_X13_79 rfl rfl ⟨Nat.le_of_ble_eq_true rfl, Nat.le_of_ble_eq_true rfl⟩ rfl hl.1 rfl (Nat.le_of_ble_eq_true rfl) dX13_scan_262 ⟨(Nat.le_of_ble_eq_true rfl), (Nat.le_of_ble_eq_true rfl)⟩) hZ (fun r80 V77 n78 _ _ hw79 hZ => ?_)
                obtain ⟨rfl, hq81, ho83, hr82⟩ := hw79
                have hP := hP.trans hq81 (fun _ _ => rfl)
                have b84 := hq_rng r80
                refine hp_calli (hp_runS (As := [.int (r80)]) (rest := []) hx hb hml hown hts (t_X13_isFigure l D cs B G  V77 n hP.1  (r80) ) hZ cv_X13_90 rfl rfl ⟨Nat.le_of_ble_eq_true rfl, Nat.le_of_ble_eq_true rfl⟩ rfl hl.1 rfl (Nat.le_of_ble_eq_true rfl) dX13_scan_265 ⟨(Nat.le_of_ble_eq_true rfl), (Nat.le_of_ble_eq_true rfl)⟩) hZ (fun r88 V85 n86 _ _ hw87 hZ => ?_)
                obtain ⟨rfl, hq89, hr90⟩ := hw87
                have hP := hP.trans hq89 (fun _ _ => rfl)
                have b91 := hq_rng r88
                refine lv_if_eq (tgt := 284) hx hb dX13_scan_268 (by decide) (fun c92 => ?_) (fun c92 => ?_)
                · have c92 : (r88).toInt = (0 : Int) := hq_eqi.mp c92
                  refine lv_aload_n hx hb dX13_scan_284 rfl (lv_at hl 2 rfl) ?_
                  refine lv_iload_n hx hb dX13_scan_285 rfl (lv_at hl 0 rfl) ?_
                  refine lv_if_eq (tgt := 306) hx hb dX13_scan_286 (by decide) (fun c93 => ?_) (fun c93 => ?_)
                  · have c93 : (r38).toInt = (0 : Int) := hq_eqi.mp c93
                    refine lv_iload_n hx hb dX13_scan_306 rfl (lv_at hl 1 rfl) ?_
                    refine lv_bipush (v := 59) hx hb dX13_scan_307 (by decide) ?_
                    refine lv_icmp_ne (tgt := 316) hx hb dX13_scan_309 (by decide) (fun c94 => ?_) (fun c94 => ?_)
                    · have c94 : ¬ (r11).toInt = (59 : Int) := fun h9 => c94 (hq_eqi.mpr h9)
                      refine lv_iconst (v := 5) hx hb dX13_scan_316 (by decide) ?_
                      have fx95 : V85 (m) = some (.inr (13, hm_o q (m_tp) (m_sz) (bh9) (bh8) (m_hd) (m_ft) (m_fa) (m_le) (m_fo) (m_as) (m_fd) (m_bc) (m_bg) (m_bs) (m_be) (m_b0) (m_b1) (m_cm) (m_hc))) := (hq89.2 (m) _ h_m rfl).trans (ho83)
                      refine hp_put hx hb hts hown hZ fx95 fp_X13_83 rfl rfl (Nat.le_of_ble_eq_true rfl) dX13_scan_317 (fun V96 _ _ e97 o98 hZ => ?_)
                      have e97 : V96 (m) = some (.inr (13, hm_o q (m_tp) (m_sz) (bh9) (bh8) (5) (m_ft) (m_fa) (m_le) (m_fo) (m_as) (m_fd) (m_bc) (m_bg) (m_bs) (m_be) (m_b0) (m_b1) (m_cm) (m_hc))) := e97
                      have hP := hP.put h_m e97 o98 (trivial) rfl
                      have hl99 : (5 : Int32).toInt = 5 := by decide
                      exact hp_vret hx hb hr hlocks hZ ⟨rfl, hP, ⟨bh9, bh8, 5, e97, by omega⟩⟩ dX13_scan_320
                    · have c94 : (r11).toInt = (59 : Int) := hq_eqi.mp c94
                      refine lv_iconst (v := 4) hx hb dX13_scan_312 (by decide) ?_
                      refine lv_goto (tgt := 317) hx hb dX13_scan_313 (by decide) ?_
                      have fx100 : V85 (m) = some (.inr (13, hm_o q (m_tp) (m_sz) (bh9) (bh8) (m_hd) (m_ft) (m_fa) (m_le) (m_fo) (m_as) (m_fd) (m_bc) (m_bg) (m_bs) (m_be) (m_b0) (m_b1) (m_cm) (m_hc))) := (hq89.2 (m) _ h_m rfl).trans (ho83)
                      refine hp_put hx hb hts hown hZ fx100 fp_X13_83 rfl rfl (Nat.le_of_ble_eq_true rfl) dX13_scan_317 (fun V101 _ _ e102 o103 hZ => ?_)
                      have e102 : V101 (m) = some (.inr (13, hm_o q (m_tp) (m_sz) (bh9) (bh8) (4) (m_ft) (m_fa) (m_le) (m_fo) (m_as) (m_fd) (m_bc) (m_bg) (m_bs) (m_be) (m_b0) (m_b1) (m_cm) (m_hc))) := e102
                      have hP := hP.put h_m e102 o103 (trivial) rfl
                      have hl104 : (4 : Int32).toInt = 4 := by decide
                      exact hp_vret hx hb hr hlocks hZ ⟨rfl, hP, ⟨bh9, bh8, 4, e102, by omega⟩⟩ dX13_scan_320
                  · have c93 : ¬ (r38).toInt = (0 : Int) := fun h9 => c93 (hq_eqi.mpr h9)
                    refine lv_aload_n hx hb dX13_scan_289 rfl (lv_at hl 2 rfl) ?_
                    have fx105 : V85 (m) = some (.inr (13, hm_o q (m_tp) (m_sz) (bh9) (bh8) (m_hd) (m_ft) (m_fa) (m_le) (m_fo) (m_as) (m_fd) (m_bc) (m_bg) (m_bs) (m_be) (m_b0) (m_b1) (m_cm) (m_hc))) := (hq89.2 (m) _ h_m rfl).trans (ho83)
                    refine hp_get (v := .int (bh8)) hx hb hts hown hZ fx105 fl_X13_76 rfl dX13_scan_290 ?_
                    refine lv_aload_n hx hb dX13_scan_293 rfl (lv_at hl 2 rfl) ?_
                    refine hp_get (v := .int (bh9)) hx hb hts hown hZ fx105 fl_X13_60 rfl dX13_scan_294 ?_
                    refine lv_isub hx hb dX13_scan_297 ?_
                    refine lv_topi (fun y106 ey107 => ?_)
                    obtain ⟨k108, hk109, b110, b111⟩ := hq_sub (bh8) (bh9)
                    rw [← ey107] at hk109 b110 b111
                    have hk109 : (y106).toInt = (bh8).toInt - (bh9).toInt + k108 * 4294967296 := hk109
                    obtain rfl : k108 = 0 := by omega
                    refine lv_iconst (v := 1) hx hb dX13_scan_298 (by decide) ?_
                    refine lv_icmp_ne (tgt := 306) hx hb dX13_scan_299 (by decide) (fun c112 => ?_) (fun c112 => ?_)
                    · have c112 : ¬ (y106).toInt = (1 : Int) := fun h9 => c112 (hq_eqi.mpr h9)
                      refine lv_iload_n hx hb dX13_scan_306 rfl (lv_at hl 1 rfl) ?_
                      refine lv_bipush (v := 59) hx hb dX13_scan_307 (by decide) ?_
                      refine lv_icmp_ne (tgt := 316) hx hb dX13_scan_309 (by decide) (fun c113 => ?_) (fun c113 => ?_)
                      · have c113 : ¬ (r11).toInt = (59 : Int) := fun h9 => c113 (hq_eqi.mpr h9)
                        refine lv_iconst (v := 5) hx hb dX13_scan_316 (by decide) ?_
                        refine hp_put hx hb hts hown hZ fx105 fp_X13_83 rfl rfl (Nat.le_of_ble_eq_true rfl) dX13_scan_317 (fun V114 _ _ e115 o116 hZ => ?_)
                        have e115 : V114 (m) = some (.inr (13, hm_o q (m_tp) (m_sz) (bh9) (bh8) (5) (m_ft) (m_fa) (m_le) (m_fo) (m_as) (m_fd) (m_bc) (m_bg) (m_bs) (m_be) (m_b0) (m_b1) (m_cm) (m_hc))) := e115
                        have hP := hP.put h_m e115 o116 (trivial) rfl
                        have hl117 : (5 : Int32).toInt = 5 := by decide
                        exact hp_vret hx hb hr hlocks hZ ⟨rfl, hP, ⟨bh9, bh8, 5, e115, by omega⟩⟩ dX13_scan_320
                      · have c113 : (r11).toInt = (59 : Int) := hq_eqi.mp c113
                        refine lv_iconst (v := 4) hx hb dX13_scan_312 (by decide) ?_
                        refine lv_goto (tgt := 317) hx hb dX13_scan_313 (by decide) ?_
                        refine hp_put hx hb hts hown hZ fx105 fp_X13_83 rfl rfl (Nat.le_of_ble_eq_true rfl) dX13_scan_317 (fun V118 _ _ e119 o120 hZ => ?_)
                        have e119 : V118 (m) = some (.inr (13, hm_o q (m_tp) (m_sz) (bh9) (bh8) (4) (m_ft) (m_fa) (m_le) (m_fo) (m_as) (m_fd) (m_bc) (m_bg) (m_bs) (m_be) (m_b0) (m_b1) (m_cm) (m_hc))) := e119
                        have hP := hP.put h_m e119 o120 (trivial) rfl
                        have hl121 : (4 : Int32).toInt = 4 := by decide
                        exact hp_vret hx hb hr hlocks hZ ⟨rfl, hP, ⟨bh9, bh8, 4, e119, by omega⟩⟩ dX13_scan_320
                    · have c112 : (y106).toInt = (1 : Int) := hq_eqi.mp c112
                      refine lv_iconst (v := 2) hx hb dX13_scan_302 (by decide) ?_
                      refine lv_goto (tgt := 317) hx hb dX13_scan_303 (by decide) ?_
                      refine hp_put hx hb hts hown hZ fx105 fp_X13_83 rfl rfl (Nat.le_of_ble_eq_true rfl) dX13_scan_317 (fun V122 _ _ e123 o124 hZ => ?_)
                      have e123 : V122 (m) = some (.inr (13, hm_o q (m_tp) (m_sz) (bh9) (bh8) (2) (m_ft) (m_fa) (m_le) (m_fo) (m_as) (m_fd) (m_bc) (m_bg) (m_bs) (m_be) (m_b0) (m_b1) (m_cm) (m_hc))) := e123
                      have hP := hP.put h_m e123 o124 (trivial) rfl
                      have hl125 : (2 : Int32).toInt = 2 := by decide
                      exact hp_vret hx hb hr hlocks hZ ⟨rfl, hP, ⟨bh9, bh8, 2, e123, by omega⟩⟩ dX13_scan_320
                · have c92 : ¬ (r88).toInt = (0 : Int) := fun h9 => c92 (hq_eqi.mpr h9)
                  refine lv_aload_n hx hb dX13_scan_271 rfl (lv_at hl 2 rfl) ?_
                  refine lv_dup hx hb dX13_scan_272 rfl ?_
                  have fx126 : V85 (m) = some (.inr (13, hm_o q (m_tp) (m_sz) (bh9) (bh8) (m_hd) (m_ft) (m_fa) (m_le) (m_fo) (m_as) (m_fd) (m_bc) (m_bg) (m_bs) (m_be) (m_b0) (m_b1) (m_cm) (m_hc))) := (hq89.2 (m) _ h_m rfl).trans (ho83)
                  refine hp_get (v := .int (bh8)) hx hb hts hown hZ fx126 fl_X13_76 rfl dX13_scan_273 ?_
                  refine lv_iconst (v := 1) hx hb dX13_scan_276 (by decide) ?_
                  refine lv_iadd hx hb dX13_scan_277 ?_
                  refine lv_topi (fun y127 ey128 => ?_)
                  obtain ⟨k129, hk130, b131, b132⟩ := hq_add (bh8) (1)
                  rw [← ey128] at hk130 b131 b132
                  have hk130 : (y127).toInt = (bh8).toInt + (1 : Int) + k129 * 4294967296 := hk130
                  obtain rfl : k129 = 0 := by omega
                  refine hp_put hx hb hts hown hZ fx126 fp_X13_76 rfl rfl (Nat.le_of_ble_eq_true rfl) dX13_scan_278 (fun V133 _ _ e134 o135 hZ => ?_)
                  have e134 : V133 (m) = some (.inr (13, hm_o q (m_tp) (m_sz) (bh9) (y127) (m_hd) (m_ft) (m_fa) (m_le) (m_fo) (m_as) (m_fd) (m_bc) (m_bg) (m_bs) (m_be) (m_b0) (m_b1) (m_cm) (m_hc))) := e134
                  have hP := hP.put h_m e134 o135 (trivial) rfl
                  refine lv_goto (tgt := 253) hx hb dX13_scan_281 (by decide) ?_
                  exact ih253 _ (by omega) _ _ _ ls  (y127) rfl hZ hP e134 (by omega) (by omega) (lv_sub hl [0, 1, 2] rfl)
          · have c34 : (r11).toInt = (39 : Int) := hq_eqi.mp c34
            have fx136 : V26 (m) = some (.inr (13, hm_o q (m_tp) (m_sz) (bh9) (y17) (m_hd) (m_ft) (m_fa) (m_le) (m_fo) (m_as) (m_fd) (m_bc) (m_bg) (m_bs) (m_be) (m_b0) (m_b1) (m_cm) (m_hc))) := (hq30.2 (m) _ h_m rfl).trans (e24)
            suffices lp162 : ∀ (k9 : Nat) (V9 : hp_V) (H9 : Heap) (locs9 : List Loc) (ls : Array Slot)  (bh8 : Int32), (5000 - bh8.toInt).toNat = k9 → hp_Z D cs B s V9 H9 n locs9 → hq_P cs G (fun g => g.1 == 1) V V9 → V9 (m) = some (.inr (13, hm_o q (m_tp) (m_sz) (bh9) (bh8) (m_hd) (m_ft) (m_fa) (m_le) (m_fo) (m_as) (m_fd) (m_bc) (m_bg) (m_bs) (m_be) (m_b0) (m_b1) (m_cm) (m_hc))) → bh9.toInt + 1 ≤ bh8.toInt → bh8.toInt ≤ m_sz.toInt → lv_has ls 3 [(1, .int (r11)), (0, .ref (m))] → W p l e ({ frames := 2, cells := 0, slots := 0, locals := 42 }) s m ([.ref (m)] : List Value).toArray below meth c H9 locs9 0 0 (MQ below (hp_QV D cs B (fun V' n' => n = n' ∧ hq_P cs G (fun g => g.1 == 1) V V' ∧ (∃ (m_fr1 : Int32) (m_bh1 : Int32) (m_hd1 : Int32), V' m = some (.inr (13, hm_o q (m_tp) (m_sz) (m_fr1) (m_bh1) (m_hd1) (m_ft) (m_fa) (m_le) (m_fo) (m_as) (m_fd) (m_bc) (m_bg) (m_bs) (m_be) (m_b0) (m_b1) (m_cm) (m_hc))) ∧ ((0 ≤ m_fr1.toInt ∧ m_fr1.toInt ≤ m_sz.toInt) ∧ (0 ≤ m_bh1.toInt ∧ m_bh1.toInt ≤ m_sz.toInt + 1) ∧ (m_bh1.toInt ≤ m_sz.toInt ∨ m_hd1.toInt = 5) ∧ (¬ m_hd1.toInt = 1 ∨ (m_fr1.toInt + 1 ≤ m_bh1.toInt ∧ m_bh1.toInt ≤ m_fr1.toInt + 12)) ∧ (¬ m_hd1.toInt = 3 ∨ (m_fr1.toInt + 2 ≤ m_bh1.toInt ∧ m_bh1.toInt ≤ m_fr1.toInt + 10)) ∧ (¬ m_hd1.toInt = 2 ∨ m_bh1.toInt = m_fr1.toInt + 1))))) ([.ref (m)] : List Value).toArray s 0 0 (hp_F B)) (F0 m 162 ls []) from lp162 _ _ _ _ ls  (y17) rfl hZ hP fx136 (by omega) (by omega) (lv_sub hl [0, 1] rfl)
            intro k9
            induction k9 using Nat.strongRecOn with
            | _ k9 ih162 =>
              intro V9 H9 locs9 ls  bh8 hk162 hZ hP ho137 hv138 hv139 hl
              have hb_bh8 := hq_rng bh8
              have hP_162 := hP
              refine lv_aload_n hx hb dX13_scan_162 rfl (lv_at hl 1 rfl) ?_
              refine lv_aload_n hx hb dX13_scan_163 rfl (lv_at hl 1 rfl) ?_
              refine hp_get (v := .int (bh8)) hx hb hts hown hZ ho137 fl_X13_76 rfl dX13_scan_164 ?_
              refine hp_calli (hp_runV (As := [.int (bh8)]) (rest := []) hx hb hml hown hts (t_X13_byteAt l D cs B G  V9 n hP.1 q hR (m) h_m (bh8) ho137  (by omega) (by omega) (by omega) (by omega) (by omega) (by omega) (by omega) (by omega) (by omega)) hZ ho137 cv_X13_79 rfl rfl ⟨Nat.le_of_ble_eq_true rfl, Nat.le_of_ble_eq_true rfl⟩ rfl hl.1 rfl (Nat.le_of_ble_eq_true rfl) dX13_scan_167 ⟨(Nat.le_of_ble_eq_true rfl), (Nat.le_of_ble_eq_true rfl)⟩) hZ (fun r143 V140 n141 _ _ hw142 hZ => ?_)
              obtain ⟨rfl, hq144, ho146, hr145⟩ := hw142
              have hP := hP.trans hq144 (fun _ _ => rfl)
              have b147 := hq_rng r143
              refine hp_calli (hp_runS (As := [.int (r143)]) (rest := []) hx hb hml hown hts (t_X13_isSmall l D cs B G  V140 n hP.1  (r143) ) hZ cv_X13_86 rfl rfl ⟨Nat.le_of_ble_eq_true rfl, Nat.le_of_ble_eq_true rfl⟩ rfl hl.1 rfl (Nat.le_of_ble_eq_true rfl) dX13_scan_170 ⟨(Nat.le_of_ble_eq_true rfl), (Nat.le_of_ble_eq_true rfl)⟩) hZ (fun r151 V148 n149 _ _ hw150 hZ => ?_)
              obtain ⟨rfl, hq152, hr153⟩ := hw150
              have hP := hP.trans hq152 (fun _ _ => rfl)
              have b154 := hq_rng r151
              refine lv_if_eq (tgt := 189) hx hb dX13_scan_173 (by decide) (fun c155 => ?_) (fun c155 => ?_)
              · have c155 : (r151).toInt = (0 : Int) := hq_eqi.mp c155
                refine lv_aload_n hx hb dX13_scan_189 rfl (lv_at hl 1 rfl) ?_
                refine lv_aload_n hx hb dX13_scan_190 rfl (lv_at hl 1 rfl) ?_
                have fx156 : V148 (m) = some (.inr (13, hm_o q (m_tp) (m_sz) (bh9) (bh8) (m_hd) (m_ft) (m_fa) (m_le) (m_fo) (m_as) (m_fd) (m_bc) (m_bg) (m_bs) (m_be) (m_b0) (m_b1) (m_cm) (m_hc))) := (hq152.2 (m) _ h_m rfl).trans (ho146)
                refine hp_get (v := .int (bh8)) hx hb hts hown hZ fx156 fl_X13_76 rfl dX13_scan_191 ?_
                refine hp_calli (hp_runV (As := [.int (bh8)]) (rest := []) hx hb hml hown hts (t_X13_byteAt l D cs B G  V148 n hP.1 q hR (m) h_m (bh8) fx156  (by omega) (by omega) (by omega) (by omega) (by omega) (by omega) (by omega) (by omega) (by omega)) hZ fx156 cv_X13_79 rfl rfl ⟨Nat.le_of_ble_eq_true rfl, Nat.le_of_ble_eq_true rfl⟩ rfl hl.1 rfl (Nat.le_of_ble_eq_true rfl) dX13_scan_194 ⟨(Nat.le_of_ble_eq_true rfl), (Nat.le_of_ble_eq_true rfl)⟩) hZ (fun r160 V157 n158 _ _ hw159 hZ => ?_)
                obtain ⟨rfl, hq161, ho163, hr162⟩ := hw159
                have hP := hP.trans hq161 (fun _ _ => rfl)
                have b164 := hq_rng r160
                refine lv_bipush (v := 39) hx hb dX13_scan_197 (by decide) ?_
                refine lv_icmp_ne (tgt := 220) hx hb dX13_scan_199 (by decide) (fun c165 => ?_) (fun c165 => ?_)
                · have c165 : ¬ (r160).toInt = (39 : Int) := fun h9 => c165 (hq_eqi.mpr h9)
                  refine lv_iconst (v := 0) hx hb dX13_scan_220 (by decide) ?_
                  refine lv_istore_n (lv' := [(2, .int (0)), (1, .int (r11)), (0, .ref (m))]) hx hb dX13_scan_221 rfl hl (by decide) rfl (fun ls hl => ?_)
                  refine lv_aload_n hx hb dX13_scan_222 rfl (lv_at hl 2 rfl) ?_
                  refine lv_iload_n hx hb dX13_scan_223 rfl (lv_at hl 0 rfl) ?_
                  refine lv_if_eq (tgt := 231) hx hb dX13_scan_224 (by decide) (fun c166 => ?_) (fun c166 => absurd (by decide) c166)
                  refine lv_iconst (v := 5) hx hb dX13_scan_231 (by decide) ?_
                  refine hp_put hx hb hts hown hZ ho163 fp_X13_83 rfl rfl (Nat.le_of_ble_eq_true rfl) dX13_scan_232 (fun V167 _ _ e168 o169 hZ => ?_)
                  have e168 : V167 (m) = some (.inr (13, hm_o q (m_tp) (m_sz) (bh9) (bh8) (5) (m_ft) (m_fa) (m_le) (m_fo) (m_as) (m_fd) (m_bc) (m_bg) (m_bs) (m_be) (m_b0) (m_b1) (m_cm) (m_hc))) := e168
                  have hP := hP.put h_m e168 o169 (trivial) rfl
                  refine lv_aload_n hx hb dX13_scan_235 rfl (lv_at hl 2 rfl) ?_
                  refine lv_dup hx hb dX13_scan_236 rfl ?_
                  refine hp_get (v := .int (bh8)) hx hb hts hown hZ e168 fl_X13_76 rfl dX13_scan_237 ?_
                  refine lv_iconst (v := 1) hx hb dX13_scan_240 (by decide) ?_
                  refine lv_iadd hx hb dX13_scan_241 ?_
                  refine lv_topi (fun y170 ey171 => ?_)
                  obtain ⟨k172, hk173, b174, b175⟩ := hq_add (bh8) (1)
                  rw [← ey171] at hk173 b174 b175
                  have hk173 : (y170).toInt = (bh8).toInt + (1 : Int) + k172 * 4294967296 := hk173
                  obtain rfl : k172 = 0 := by omega
                  refine hp_put hx hb hts hown hZ e168 fp_X13_76 rfl rfl (Nat.le_of_ble_eq_true rfl) dX13_scan_242 (fun V176 _ _ e177 o178 hZ => ?_)
                  have e177 : V176 (m) = some (.inr (13, hm_o q (m_tp) (m_sz) (bh9) (y170) (5) (m_ft) (m_fa) (m_le) (m_fo) (m_as) (m_fd) (m_bc) (m_bg) (m_bs) (m_be) (m_b0) (m_b1) (m_cm) (m_hc))) := e177
                  have hP := hP.put h_m e177 o178 (trivial) rfl
                  refine lv_goto (tgt := 320) hx hb dX13_scan_245 (by decide) ?_
                  have hl179 : (5 : Int32).toInt = 5 := by decide
                  exact hp_vret hx hb hr hlocks hZ ⟨rfl, hP, ⟨bh9, y170, 5, e177, by omega⟩⟩ dX13_scan_320
                · have c165 : (r160).toInt = (39 : Int) := hq_eqi.mp c165
                  refine lv_aload_n hx hb dX13_scan_202 rfl (lv_at hl 1 rfl) ?_
                  refine hp_get (v := .int (bh8)) hx hb hts hown hZ ho163 fl_X13_76 rfl dX13_scan_203 ?_
                  refine lv_aload_n hx hb dX13_scan_206 rfl (lv_at hl 1 rfl) ?_
                  refine hp_get (v := .int (bh9)) hx hb hts hown hZ ho163 fl_X13_60 rfl dX13_scan_207 ?_
                  refine lv_isub hx hb dX13_scan_210 ?_
                  refine lv_topi (fun y180 ey181 => ?_)
                  obtain ⟨k182, hk183, b184, b185⟩ := hq_sub (bh8) (bh9)
                  rw [← ey181] at hk183 b184 b185
                  have hk183 : (y180).toInt = (bh8).toInt - (bh9).toInt + k182 * 4294967296 := hk183
                  obtain rfl : k182 = 0 := by omega
                  refine lv_bipush (v := 9) hx hb dX13_scan_211 (by decide) ?_
                  refine lv_icmp_gt (tgt := 220) hx hb dX13_scan_213 (by decide) (fun c186 => ?_) (fun c186 => ?_)
                  · have c186 : (9 : Int) < (y180).toInt := hq_lti.mp c186
                    refine lv_iconst (v := 0) hx hb dX13_scan_220 (by decide) ?_
                    refine lv_istore_n (lv' := [(2, .int (0)), (1, .int (r11)), (0, .ref (m))]) hx hb dX13_scan_221 rfl hl (by decide) rfl (fun ls hl => ?_)
                    refine lv_aload_n hx hb dX13_scan_222 rfl (lv_at hl 2 rfl) ?_
                    refine lv_iload_n hx hb dX13_scan_223 rfl (lv_at hl 0 rfl) ?_
                    refine lv_if_eq (tgt := 231) hx hb dX13_scan_224 (by decide) (fun c187 => ?_) (fun c187 => absurd (by decide) c187)
                    refine lv_iconst (v := 5) hx hb dX13_scan_231 (by decide) ?_
                    refine hp_put hx hb hts hown hZ ho163 fp_X13_83 rfl rfl (Nat.le_of_ble_eq_true rfl) dX13_scan_232 (fun V188 _ _ e189 o190 hZ => ?_)
                    have e189 : V188 (m) = some (.inr (13, hm_o q (m_tp) (m_sz) (bh9) (bh8) (5) (m_ft) (m_fa) (m_le) (m_fo) (m_as) (m_fd) (m_bc) (m_bg) (m_bs) (m_be) (m_b0) (m_b1) (m_cm) (m_hc))) := e189
                    have hP := hP.put h_m e189 o190 (trivial) rfl
                    refine lv_aload_n hx hb dX13_scan_235 rfl (lv_at hl 2 rfl) ?_
                    refine lv_dup hx hb dX13_scan_236 rfl ?_
                    refine hp_get (v := .int (bh8)) hx hb hts hown hZ e189 fl_X13_76 rfl dX13_scan_237 ?_
                    refine lv_iconst (v := 1) hx hb dX13_scan_240 (by decide) ?_
                    refine lv_iadd hx hb dX13_scan_241 ?_
                    refine lv_topi (fun y191 ey192 => ?_)
                    obtain ⟨k193, hk194, b195, b196⟩ := hq_add (bh8) (1)
                    rw [← ey192] at hk194 b195 b196
                    have hk194 : (y191).toInt = (bh8).toInt + (1 : Int) + k193 * 4294967296 := hk194
                    obtain rfl : k193 = 0 := by omega
                    refine hp_put hx hb hts hown hZ e189 fp_X13_76 rfl rfl (Nat.le_of_ble_eq_true rfl) dX13_scan_242 (fun V197 _ _ e198 o199 hZ => ?_)
                    have e198 : V197 (m) = some (.inr (13, hm_o q (m_tp) (m_sz) (bh9) (y191) (5) (m_ft) (m_fa) (m_le) (m_fo) (m_as) (m_fd) (m_bc) (m_bg) (m_bs) (m_be) (m_b0) (m_b1) (m_cm) (m_hc))) := e198
                    have hP := hP.put h_m e198 o199 (trivial) rfl
                    refine lv_goto (tgt := 320) hx hb dX13_scan_245 (by decide) ?_
                    have hl200 : (5 : Int32).toInt = 5 := by decide
                    exact hp_vret hx hb hr hlocks hZ ⟨rfl, hP, ⟨bh9, y191, 5, e198, by omega⟩⟩ dX13_scan_320
                  · have c186 : ¬ (9 : Int) < (y180).toInt := fun h9 => c186 (hq_lti.mpr h9)
                    refine lv_iconst (v := 1) hx hb dX13_scan_216 (by decide) ?_
                    refine lv_goto (tgt := 221) hx hb dX13_scan_217 (by decide) ?_
                    refine lv_istore_n (lv' := [(2, .int (1)), (1, .int (r11)), (0, .ref (m))]) hx hb dX13_scan_221 rfl hl (by decide) rfl (fun ls hl => ?_)
                    refine lv_aload_n hx hb dX13_scan_222 rfl (lv_at hl 2 rfl) ?_
                    refine lv_iload_n hx hb dX13_scan_223 rfl (lv_at hl 0 rfl) ?_
                    refine lv_if_eq (tgt := 231) hx hb dX13_scan_224 (by decide) (fun c201 => absurd c201 (by decide)) (fun c201 => ?_)
                    refine lv_iconst (v := 3) hx hb dX13_scan_227 (by decide) ?_
                    refine lv_goto (tgt := 232) hx hb dX13_scan_228 (by decide) ?_
                    refine hp_put hx hb hts hown hZ ho163 fp_X13_83 rfl rfl (Nat.le_of_ble_eq_true rfl) dX13_scan_232 (fun V202 _ _ e203 o204 hZ => ?_)
                    have e203 : V202 (m) = some (.inr (13, hm_o q (m_tp) (m_sz) (bh9) (bh8) (3) (m_ft) (m_fa) (m_le) (m_fo) (m_as) (m_fd) (m_bc) (m_bg) (m_bs) (m_be) (m_b0) (m_b1) (m_cm) (m_hc))) := e203
                    have hP := hP.put h_m e203 o204 (trivial) rfl
                    refine lv_aload_n hx hb dX13_scan_235 rfl (lv_at hl 2 rfl) ?_
                    refine lv_dup hx hb dX13_scan_236 rfl ?_
                    refine hp_get (v := .int (bh8)) hx hb hts hown hZ e203 fl_X13_76 rfl dX13_scan_237 ?_
                    refine lv_iconst (v := 1) hx hb dX13_scan_240 (by decide) ?_
                    refine lv_iadd hx hb dX13_scan_241 ?_
                    refine lv_topi (fun y205 ey206 => ?_)
                    obtain ⟨k207, hk208, b209, b210⟩ := hq_add (bh8) (1)
                    rw [← ey206] at hk208 b209 b210
                    have hk208 : (y205).toInt = (bh8).toInt + (1 : Int) + k207 * 4294967296 := hk208
                    obtain rfl : k207 = 0 := by omega
                    refine hp_put hx hb hts hown hZ e203 fp_X13_76 rfl rfl (Nat.le_of_ble_eq_true rfl) dX13_scan_242 (fun V211 _ _ e212 o213 hZ => ?_)
                    have e212 : V211 (m) = some (.inr (13, hm_o q (m_tp) (m_sz) (bh9) (y205) (3) (m_ft) (m_fa) (m_le) (m_fo) (m_as) (m_fd) (m_bc) (m_bg) (m_bs) (m_be) (m_b0) (m_b1) (m_cm) (m_hc))) := e212
                    have hP := hP.put h_m e212 o213 (trivial) rfl
                    refine lv_goto (tgt := 320) hx hb dX13_scan_245 (by decide) ?_
                    have hl214 : (3 : Int32).toInt = 3 := by decide
                    exact hp_vret hx hb hr hlocks hZ ⟨rfl, hP, ⟨bh9, y205, 3, e212, by omega⟩⟩ dX13_scan_320
              · have c155 : ¬ (r151).toInt = (0 : Int) := fun h9 => c155 (hq_eqi.mpr h9)
                refine lv_aload_n hx hb dX13_scan_176 rfl (lv_at hl 1 rfl) ?_
                refine lv_dup hx hb dX13_scan_177 rfl ?_
                have fx215 : V148 (m) = some (.inr (13, hm_o q (m_tp) (m_sz) (bh9) (bh8) (m_hd) (m_ft) (m_fa) (m_le) (m_fo) (m_as) (m_fd) (m_bc) (m_bg) (m_bs) (m_be) (m_b0) (m_b1) (m_cm) (m_hc))) := (hq152.2 (m) _ h_m rfl).trans (ho146)
                refine hp_get (v := .int (bh8)) hx hb hts hown hZ fx215 fl_X13_76 rfl dX13_scan_178 ?_
                refine lv_iconst (v := 1) hx hb dX13_scan_181 (by decide) ?_
                refine lv_iadd hx hb dX13_scan_182 ?_
                refine lv_topi (fun y216 ey217 => ?_)
                obtain ⟨k218, hk219, b220, b221⟩ := hq_add (bh8) (1)
                rw [← ey217] at hk219 b220 b221
                have hk219 : (y216).toInt = (bh8).toInt + (1 : Int) + k218 * 4294967296 := hk219
                obtain rfl : k218 = 0 := by omega
                refine hp_put hx hb hts hown hZ fx215 fp_X13_76 rfl rfl (Nat.le_of_ble_eq_true rfl) dX13_scan_183 (fun V222 _ _ e223 o224 hZ => ?_)
                have e223 : V222 (m) = some (.inr (13, hm_o q (m_tp) (m_sz) (bh9) (y216) (m_hd) (m_ft) (m_fa) (m_le) (m_fo) (m_as) (m_fd) (m_bc) (m_bg) (m_bs) (m_be) (m_b0) (m_b1) (m_cm) (m_hc))) := e223
                have hP := hP.put h_m e223 o224 (trivial) rfl
                refine lv_goto (tgt := 162) hx hb dX13_scan_186 (by decide) ?_
                exact ih162 _ (by omega) _ _ _ ls  (y216) rfl hZ hP e223 (by omega) (by omega) (lv_sub hl [0, 1] rfl)
        · have c33 : ¬ (r29).toInt = (0 : Int) := fun h9 => c33 (hq_eqi.mpr h9)
          have fx225 : V26 (m) = some (.inr (13, hm_o q (m_tp) (m_sz) (bh9) (y17) (m_hd) (m_ft) (m_fa) (m_le) (m_fo) (m_as) (m_fd) (m_bc) (m_bg) (m_bs) (m_be) (m_b0) (m_b1) (m_cm) (m_hc))) := (hq30.2 (m) _ h_m rfl).trans (e24)
          suffices lp103 : ∀ (k9 : Nat) (V9 : hp_V) (H9 : Heap) (locs9 : List Loc) (ls : Array Slot)  (bh8 : Int32), (5000 - bh8.toInt).toNat = k9 → hp_Z D cs B s V9 H9 n locs9 → hq_P cs G (fun g => g.1 == 1) V V9 → V9 (m) = some (.inr (13, hm_o q (m_tp) (m_sz) (bh9) (bh8) (m_hd) (m_ft) (m_fa) (m_le) (m_fo) (m_as) (m_fd) (m_bc) (m_bg) (m_bs) (m_be) (m_b0) (m_b1) (m_cm) (m_hc))) → bh9.toInt + 1 ≤ bh8.toInt → bh8.toInt ≤ m_sz.toInt → lv_has ls 3 [(1, .int (r11)), (0, .ref (m))] → W p l e ({ frames := 2, cells := 0, slots := 0, locals := 42 }) s m ([.ref (m)] : List Value).toArray below meth c H9 locs9 0 0 (MQ below (hp_QV D cs B (fun V' n' => n = n' ∧ hq_P cs G (fun g => g.1 == 1) V V' ∧ (∃ (m_fr1 : Int32) (m_bh1 : Int32) (m_hd1 : Int32), V' m = some (.inr (13, hm_o q (m_tp) (m_sz) (m_fr1) (m_bh1) (m_hd1) (m_ft) (m_fa) (m_le) (m_fo) (m_as) (m_fd) (m_bc) (m_bg) (m_bs) (m_be) (m_b0) (m_b1) (m_cm) (m_hc))) ∧ ((0 ≤ m_fr1.toInt ∧ m_fr1.toInt ≤ m_sz.toInt) ∧ (0 ≤ m_bh1.toInt ∧ m_bh1.toInt ≤ m_sz.toInt + 1) ∧ (m_bh1.toInt ≤ m_sz.toInt ∨ m_hd1.toInt = 5) ∧ (¬ m_hd1.toInt = 1 ∨ (m_fr1.toInt + 1 ≤ m_bh1.toInt ∧ m_bh1.toInt ≤ m_fr1.toInt + 12)) ∧ (¬ m_hd1.toInt = 3 ∨ (m_fr1.toInt + 2 ≤ m_bh1.toInt ∧ m_bh1.toInt ≤ m_fr1.toInt + 10)) ∧ (¬ m_hd1.toInt = 2 ∨ m_bh1.toInt = m_fr1.toInt + 1))))) ([.ref (m)] : List Value).toArray s 0 0 (hp_F B)) (F0 m 103 ls []) from lp103 _ _ _ _ ls  (y17) rfl hZ hP fx225 (by omega) (by omega) (lv_sub hl [0, 1] rfl)
          intro k9
          induction k9 using Nat.strongRecOn with
          | _ k9 ih103 =>
            intro V9 H9 locs9 ls  bh8 hk103 hZ hP ho226 hv227 hv228 hl
            have hb_bh8 := hq_rng bh8
            have hP_103 := hP
            refine lv_aload_n hx hb dX13_scan_103 rfl (lv_at hl 1 rfl) ?_
            refine lv_aload_n hx hb dX13_scan_104 rfl (lv_at hl 1 rfl) ?_
            refine hp_get (v := .int (bh8)) hx hb hts hown hZ ho226 fl_X13_76 rfl dX13_scan_105 ?_
            refine hp_calli (hp_runV (As := [.int (bh8)]) (rest := []) hx hb hml hown hts (t_X13_byteAt l D cs B G  V9 n hP.1 q hR (m) h_m (bh8) ho226  (by omega) (by omega) (by omega) (by omega) (by omega) (by omega) (by omega) (by omega) (by omega)) hZ ho226 cv_X13_79 rfl rfl ⟨Nat.le_of_ble_eq_true rfl, Nat.le_of_ble_eq_true rfl⟩ rfl hl.1 rfl (Nat.le_of_ble_eq_true rfl) dX13_scan_108 ⟨(Nat.le_of_ble_eq_true rfl), (Nat.le_of_ble_eq_true rfl)⟩) hZ (fun r232 V229 n230 _ _ hw231 hZ => ?_)
            obtain ⟨rfl, hq233, ho235, hr234⟩ := hw231
            have hP := hP.trans hq233 (fun _ _ => rfl)
            have b236 := hq_rng r232
            refine hp_calli (hp_runS (As := [.int (r232)]) (rest := []) hx hb hml hown hts (t_X13_isSmall l D cs B G  V229 n hP.1  (r232) ) hZ cv_X13_86 rfl rfl ⟨Nat.le_of_ble_eq_true rfl, Nat.le_of_ble_eq_true rfl⟩ rfl hl.1 rfl (Nat.le_of_ble_eq_true rfl) dX13_scan_111 ⟨(Nat.le_of_ble_eq_true rfl), (Nat.le_of_ble_eq_true rfl)⟩) hZ (fun r240 V237 n238 _ _ hw239 hZ => ?_)
            obtain ⟨rfl, hq241, hr242⟩ := hw239
            have hP := hP.trans hq241 (fun _ _ => rfl)
            have b243 := hq_rng r240
            refine lv_if_eq (tgt := 130) hx hb dX13_scan_114 (by decide) (fun c244 => ?_) (fun c244 => ?_)
            · have c244 : (r240).toInt = (0 : Int) := hq_eqi.mp c244
              refine lv_aload_n hx hb dX13_scan_130 rfl (lv_at hl 1 rfl) ?_
              refine lv_aload_n hx hb dX13_scan_131 rfl (lv_at hl 1 rfl) ?_
              have fx245 : V237 (m) = some (.inr (13, hm_o q (m_tp) (m_sz) (bh9) (bh8) (m_hd) (m_ft) (m_fa) (m_le) (m_fo) (m_as) (m_fd) (m_bc) (m_bg) (m_bs) (m_be) (m_b0) (m_b1) (m_cm) (m_hc))) := (hq241.2 (m) _ h_m rfl).trans (ho235)
              refine hp_get (v := .int (bh8)) hx hb hts hown hZ fx245 fl_X13_76 rfl dX13_scan_132 ?_
              refine lv_aload_n hx hb dX13_scan_135 rfl (lv_at hl 1 rfl) ?_
              refine hp_get (v := .int (bh9)) hx hb hts hown hZ fx245 fl_X13_60 rfl dX13_scan_136 ?_
              refine lv_isub hx hb dX13_scan_139 ?_
              refine lv_topi (fun y246 ey247 => ?_)
              obtain ⟨k248, hk249, b250, b251⟩ := hq_sub (bh8) (bh9)
              rw [← ey247] at hk249 b250 b251
              have hk249 : (y246).toInt = (bh8).toInt - (bh9).toInt + k248 * 4294967296 := hk249
              obtain rfl : k248 = 0 := by omega
              refine lv_bipush (v := 12) hx hb dX13_scan_140 (by decide) ?_
              refine lv_icmp_le (tgt := 149) hx hb dX13_scan_142 (by decide) (fun c252 => ?_) (fun c252 => ?_)
              · have c252 : (y246).toInt ≤ (12 : Int) := hq_lei.mp c252
                refine lv_iconst (v := 1) hx hb dX13_scan_149 (by decide) ?_
                refine hp_put hx hb hts hown hZ fx245 fp_X13_83 rfl rfl (Nat.le_of_ble_eq_true rfl) dX13_scan_150 (fun V253 _ _ e254 o255 hZ => ?_)
                have e254 : V253 (m) = some (.inr (13, hm_o q (m_tp) (m_sz) (bh9) (bh8) (1) (m_ft) (m_fa) (m_le) (m_fo) (m_as) (m_fd) (m_bc) (m_bg) (m_bs) (m_be) (m_b0) (m_b1) (m_cm) (m_hc))) := e254
                have hP := hP.put h_m e254 o255 (trivial) rfl
                refine lv_goto (tgt := 320) hx hb dX13_scan_153 (by decide) ?_
                have hl256 : (1 : Int32).toInt = 1 := by decide
                exact hp_vret hx hb hr hlocks hZ ⟨rfl, hP, ⟨bh9, bh8, 1, e254, by omega⟩⟩ dX13_scan_320
              · have c252 : ¬ (y246).toInt ≤ (12 : Int) := fun h9 => c252 (hq_lei.mpr h9)
                refine lv_iconst (v := 5) hx hb dX13_scan_145 (by decide) ?_
                refine lv_goto (tgt := 150) hx hb dX13_scan_146 (by decide) ?_
                refine hp_put hx hb hts hown hZ fx245 fp_X13_83 rfl rfl (Nat.le_of_ble_eq_true rfl) dX13_scan_150 (fun V257 _ _ e258 o259 hZ => ?_)
                have e258 : V257 (m) = some (.inr (13, hm_o q (m_tp) (m_sz) (bh9) (bh8) (5) (m_ft) (m_fa) (m_le) (m_fo) (m_as) (m_fd) (m_bc) (m_bg) (m_bs) (m_be) (m_b0) (m_b1) (m_cm) (m_hc))) := e258
                have hP := hP.put h_m e258 o259 (trivial) rfl
                refine lv_goto (tgt := 320) hx hb dX13_scan_153 (by decide) ?_
                have hl260 : (5 : Int32).toInt = 5 := by decide
                exact hp_vret hx hb hr hlocks hZ ⟨rfl, hP, ⟨bh9, bh8, 5, e258, by omega⟩⟩ dX13_scan_320
            · have c244 : ¬ (r240).toInt = (0 : Int) := fun h9 => c244 (hq_eqi.mpr h9)
              refine lv_aload_n hx hb dX13_scan_117 rfl (lv_at hl 1 rfl) ?_
              refine lv_dup hx hb dX13_scan_118 rfl ?_
              have fx261 : V237 (m) = some (.inr (13, hm_o q (m_tp) (m_sz) (bh9) (bh8) (m_hd) (m_ft) (m_fa) (m_le) (m_fo) (m_as) (m_fd) (m_bc) (m_bg) (m_bs) (m_be) (m_b0) (m_b1) (m_cm) (m_hc))) := (hq241.2 (m) _ h_m rfl).trans (ho235)
              refine hp_get (v := .int (bh8)) hx hb hts hown hZ fx261 fl_X13_76 rfl dX13_scan_119 ?_
              refine lv_iconst (v := 1) hx hb dX13_scan_122 (by decide) ?_
              refine lv_iadd hx hb dX13_scan_123 ?_
              refine lv_topi (fun y262 ey263 => ?_)
              obtain ⟨k264, hk265, b266, b267⟩ := hq_add (bh8) (1)
              rw [← ey263] at hk265 b266 b267
              have hk265 : (y262).toInt = (bh8).toInt + (1 : Int) + k264 * 4294967296 := hk265
              obtain rfl : k264 = 0 := by omega
              refine hp_put hx hb hts hown hZ fx261 fp_X13_76 rfl rfl (Nat.le_of_ble_eq_true rfl) dX13_scan_124 (fun V268 _ _ e269 o270 hZ => ?_)
              have e269 : V268 (m) = some (.inr (13, hm_o q (m_tp) (m_sz) (bh9) (y262) (m_hd) (m_ft) (m_fa) (m_le) (m_fo) (m_as) (m_fd) (m_bc) (m_bg) (m_bs) (m_be) (m_b0) (m_b1) (m_cm) (m_hc))) := e269
              have hP := hP.put h_m e269 o270 (trivial) rfl
              refine lv_goto (tgt := 103) hx hb dX13_scan_127 (by decide) ?_
              exact ih103 _ (by omega) _ _ _ ls  (y262) rfl hZ hP e269 (by omega) (by omega) (lv_sub hl [0, 1] rfl)
      · have c16 : (bh9).toInt = (m_sz).toInt := hq_eqi.mp c16
        refine lv_aload_n hx hb dX13_scan_80 rfl (lv_at hl 1 rfl) ?_
        refine lv_iconst (v := 0) hx hb dX13_scan_81 (by decide) ?_
        refine hp_put hx hb hts hown hZ ho14 fp_X13_83 rfl rfl (Nat.le_of_ble_eq_true rfl) dX13_scan_82 (fun V271 _ _ e272 o273 hZ => ?_)
        have e272 : V271 (m) = some (.inr (13, hm_o q (m_tp) (m_sz) (bh9) (bh9) (0) (m_ft) (m_fa) (m_le) (m_fo) (m_as) (m_fd) (m_bc) (m_bg) (m_bs) (m_be) (m_b0) (m_b1) (m_cm) (m_hc))) := e272
        have hP := hP.put h_m e272 o273 (trivial) rfl
        have hl274 : (0 : Int32).toInt = 0 := by decide
        exact hp_vret hx hb hr hlocks hZ ⟨rfl, hP, ⟨bh9, bh9, 0, e272, by omega⟩⟩ dX13_scan_85
    · have c4 : ¬ (m_sz).toInt ≤ (bh9).toInt := fun h9 => c4 (hq_lei.mpr h9)
      refine lv_aload_n hx hb dX13_scan_11 rfl (lv_at hl 0 rfl) ?_
      refine hp_get (v := .ref (q + 20)) hx hb hts hown hZ ho1 fl_X13_73 rfl dX13_scan_12 ?_
      refine lv_aload_n hx hb dX13_scan_15 rfl (lv_at hl 0 rfl) ?_
      refine hp_get (v := .int (bh9)) hx hb hts hown hZ ho1 fl_X13_76 rfl dX13_scan_16 ?_
      obtain ⟨hN277, g276, eV275⟩ := hq_o20 hP.1 (hr_20 hR)
      refine hp_bald hx hb hZ eV275 (hq_in (by omega) (by omega)) dX13_scan_19 ?_
      refine lv_topi (fun y279 ey280 => ?_)
      have b281 := hq_rng y279
      refine lv_bipush (v := 32) hx hb dX13_scan_20 (by decide) ?_
      refine lv_icmp_eq (tgt := 39) hx hb dX13_scan_22 (by decide) (fun c282 => ?_) (fun c282 => ?_)
      · have c282 : (y279).toInt = (32 : Int) := hq_eqi.mp c282
        refine lv_aload_n hx hb dX13_scan_39 rfl (lv_at hl 0 rfl) ?_
        refine lv_dup hx hb dX13_scan_40 rfl ?_
        refine hp_get (v := .int (bh9)) hx hb hts hown hZ ho1 fl_X13_76 rfl dX13_scan_41 ?_
        refine lv_iconst (v := 1) hx hb dX13_scan_44 (by decide) ?_
        refine lv_iadd hx hb dX13_scan_45 ?_
        refine lv_topi (fun y283 ey284 => ?_)
        obtain ⟨k285, hk286, b287, b288⟩ := hq_add (bh9) (1)
        rw [← ey284] at hk286 b287 b288
        have hk286 : (y283).toInt = (bh9).toInt + (1 : Int) + k285 * 4294967296 := hk286
        obtain rfl : k285 = 0 := by omega
        refine hp_put hx hb hts hown hZ ho1 fp_X13_76 rfl rfl (Nat.le_of_ble_eq_true rfl) dX13_scan_46 (fun V289 _ _ e290 o291 hZ => ?_)
        have e290 : V289 (m) = some (.inr (13, hm_o q (m_tp) (m_sz) (m_fr) (y283) (m_hd) (m_ft) (m_fa) (m_le) (m_fo) (m_as) (m_fd) (m_bc) (m_bg) (m_bs) (m_be) (m_b0) (m_b1) (m_cm) (m_hc))) := e290
        have hP := hP.put h_m e290 o291 (trivial) rfl
        refine lv_goto (tgt := 0) hx hb dX13_scan_49 (by decide) ?_
        exact ih0 _ (by omega) _ _ _ ls  (y283) rfl hZ hP e290 (by omega) (by omega) (lv_sub hl [0] rfl)
      · have c282 : ¬ (y279).toInt = (32 : Int) := fun h9 => c282 (hq_eqi.mpr h9)
        refine lv_aload_n hx hb dX13_scan_25 rfl (lv_at hl 0 rfl) ?_
        refine hp_get (v := .ref (q + 20)) hx hb hts hown hZ ho1 fl_X13_73 rfl dX13_scan_26 ?_
        refine lv_aload_n hx hb dX13_scan_29 rfl (lv_at hl 0 rfl) ?_
        refine hp_get (v := .int (bh9)) hx hb hts hown hZ ho1 fl_X13_76 rfl dX13_scan_30 ?_
        refine hp_bald hx hb hZ eV275 (hq_in (by omega) (by omega)) dX13_scan_33 ?_
        refine lv_topi (fun y292 ey293 => ?_)
        have b294 := hq_rng y292
        refine lv_bipush (v := 10) hx hb dX13_scan_34 (by decide) ?_
        refine lv_icmp_ne (tgt := 52) hx hb dX13_scan_36 (by decide) (fun c295 => ?_) (fun c295 => ?_)
        · have c295 : ¬ (y292).toInt = (10 : Int) := fun h9 => c295 (hq_eqi.mpr h9)
          refine lv_aload_n hx hb dX13_scan_52 rfl (lv_at hl 0 rfl) ?_
          refine lv_aload_n hx hb dX13_scan_53 rfl (lv_at hl 0 rfl) ?_
          refine hp_get (v := .int (bh9)) hx hb hts hown hZ ho1 fl_X13_76 rfl dX13_scan_54 ?_
          refine hp_put hx hb hts hown hZ ho1 fp_X13_60 rfl rfl (Nat.le_of_ble_eq_true rfl) dX13_scan_57 (fun V296 _ _ e297 o298 hZ => ?_)
          have e297 : V296 (m) = some (.inr (13, hm_o q (m_tp) (m_sz) (bh9) (bh9) (m_hd) (m_ft) (m_fa) (m_le) (m_fo) (m_as) (m_fd) (m_bc) (m_bg) (m_bs) (m_be) (m_b0) (m_b1) (m_cm) (m_hc))) := e297
          have hP := hP.put h_m e297 o298 (trivial) rfl
          refine lv_aload_n hx hb dX13_scan_60 rfl (lv_at hl 0 rfl) ?_
          refine lv_aload_n hx hb dX13_scan_61 rfl (lv_at hl 0 rfl) ?_
          refine hp_get (v := .int (bh9)) hx hb hts hown hZ e297 fl_X13_60 rfl dX13_scan_62 ?_
          refine hp_calli (hp_runV (As := [.int (bh9)]) (rest := []) hx hb hml hown hts (t_X13_byteAt l D cs B G  V296 n hP.1 q hR (m) h_m (bh9) e297  (by omega) (by omega) (by omega) (by omega) (by omega) (by omega) (by omega) (by omega) (by omega)) hZ e297 cv_X13_79 rfl rfl ⟨Nat.le_of_ble_eq_true rfl, Nat.le_of_ble_eq_true rfl⟩ rfl hl.1 rfl (Nat.le_of_ble_eq_true rfl) dX13_scan_65 ⟨(Nat.le_of_ble_eq_true rfl), (Nat.le_of_ble_eq_true rfl)⟩) hZ (fun r302 V299 n300 _ _ hw301 hZ => ?_)
          obtain ⟨rfl, hq303, ho305, hr304⟩ := hw301
          have hP := hP.trans hq303 (fun _ _ => rfl)
          have b306 := hq_rng r302
          refine lv_istore_n (lv' := [(1, .int (r302)), (0, .ref (m))]) hx hb dX13_scan_68 rfl hl (by decide) rfl (fun ls hl => ?_)
          refine lv_aload_n hx hb dX13_scan_69 rfl (lv_at hl 1 rfl) ?_
          refine hp_get (v := .int (bh9)) hx hb hts hown hZ ho305 fl_X13_60 rfl dX13_scan_70 ?_
          refine lv_aload_n hx hb dX13_scan_73 rfl (lv_at hl 1 rfl) ?_
          refine hp_get (v := .int (m_sz)) hx hb hts hown hZ ho305 fl_X13_70 rfl dX13_scan_74 ?_
          refine lv_icmp_ne (tgt := 86) hx hb dX13_scan_77 (by decide) (fun c307 => ?_) (fun c307 => ?_)
          · have c307 : ¬ (bh9).toInt = (m_sz).toInt := fun h9 => c307 (hq_eqi.mpr h9)
            refine lv_aload_n hx hb dX13_scan_86 rfl (lv_at hl 1 rfl) ?_
            refine lv_dup hx hb dX13_scan_87 rfl ?_
            refine hp_get (v := .int (bh9)) hx hb hts hown hZ ho305 fl_X13_76 rfl dX13_scan_88 ?_
            refine lv_iconst (v := 1) hx hb dX13_scan_91 (by decide) ?_
            refine lv_iadd hx hb dX13_scan_92 ?_
            refine lv_topi (fun y308 ey309 => ?_)
            obtain ⟨k310, hk311, b312, b313⟩ := hq_add (bh9) (1)
            rw [← ey309] at hk311 b312 b313
            have hk311 : (y308).toInt = (bh9).toInt + (1 : Int) + k310 * 4294967296 := hk311
            obtain rfl : k310 = 0 := by omega
            refine hp_put hx hb hts hown hZ ho305 fp_X13_76 rfl rfl (Nat.le_of_ble_eq_true rfl) dX13_scan_93 (fun V314 _ _ e315 o316 hZ => ?_)
            have e315 : V314 (m) = some (.inr (13, hm_o q (m_tp) (m_sz) (bh9) (y308) (m_hd) (m_ft) (m_fa) (m_le) (m_fo) (m_as) (m_fd) (m_bc) (m_bg) (m_bs) (m_be) (m_b0) (m_b1) (m_cm) (m_hc))) := e315
            have hP := hP.put h_m e315 o316 (trivial) rfl
            refine lv_iload_n hx hb dX13_scan_96 rfl (lv_at hl 0 rfl) ?_
            refine hp_calli (hp_runS (As := [.int (r302)]) (rest := []) hx hb hml hown hts (t_X13_isSmall l D cs B G  V314 n hP.1  (r302) ) hZ cv_X13_86 rfl rfl ⟨Nat.le_of_ble_eq_true rfl, Nat.le_of_ble_eq_true rfl⟩ rfl hl.1 rfl (Nat.le_of_ble_eq_true rfl) dX13_scan_97 ⟨(Nat.le_of_ble_eq_true rfl), (Nat.le_of_ble_eq_true rfl)⟩) hZ (fun r320 V317 n318 _ _ hw319 hZ => ?_)
            obtain ⟨rfl, hq321, hr322⟩ := hw319
            have hP := hP.trans hq321 (fun _ _ => rfl)
            have b323 := hq_rng r320
            refine lv_if_eq (tgt := 156) hx hb dX13_scan_100 (by decide) (fun c324 => ?_) (fun c324 => ?_)
            · have c324 : (r320).toInt = (0 : Int) := hq_eqi.mp c324
              refine lv_iload_n hx hb dX13_scan_156 rfl (lv_at hl 0 rfl) ?_
              refine lv_bipush (v := 39) hx hb dX13_scan_157 (by decide) ?_
              refine lv_icmp_ne (tgt := 248) hx hb dX13_scan_159 (by decide) (fun c325 => ?_) (fun c325 => ?_)
              · have c325 : ¬ (r302).toInt = (39 : Int) := fun h9 => c325 (hq_eqi.mpr h9)
                refine lv_iload_n hx hb dX13_scan_248 rfl (lv_at hl 0 rfl) ?_
                refine hp_calli (hp_runS (As := [.int (r302)]) (rest := []) hx hb hml hown hts (t_X13_isFigure l D cs B G  V317 n hP.1  (r302) ) hZ cv_X13_90 rfl rfl ⟨Nat.le_of_ble_eq_true rfl, Nat.le_of_ble_eq_true rfl⟩ rfl hl.1 rfl (Nat.le_of_ble_eq_true rfl) dX13_scan_249 ⟨(Nat.le_of_ble_eq_true rfl), (Nat.le_of_ble_eq_true rfl)⟩) hZ (fun r329 V326 n327 _ _ hw328 hZ => ?_)
                obtain ⟨rfl, hq330, hr331⟩ := hw328
                have hP := hP.trans hq330 (fun _ _ => rfl)
                have b332 := hq_rng r329
                refine lv_istore_n (lv' := [(2, .int (r329)), (1, .int (r302)), (0, .ref (m))]) hx hb dX13_scan_252 rfl hl (by decide) rfl (fun ls hl => ?_)
                have fx333 : V326 (m) = some (.inr (13, hm_o q (m_tp) (m_sz) (bh9) (y308) (m_hd) (m_ft) (m_fa) (m_le) (m_fo) (m_as) (m_fd) (m_bc) (m_bg) (m_bs) (m_be) (m_b0) (m_b1) (m_cm) (m_hc))) := (hq330.2 (m) _ h_m rfl).trans ((hq321.2 (m) _ h_m rfl).trans (e315))
                suffices lp253 : ∀ (k9 : Nat) (V9 : hp_V) (H9 : Heap) (locs9 : List Loc) (ls : Array Slot)  (bh8 : Int32), (5000 - bh8.toInt).toNat = k9 → hp_Z D cs B s V9 H9 n locs9 → hq_P cs G (fun g => g.1 == 1) V V9 → V9 (m) = some (.inr (13, hm_o q (m_tp) (m_sz) (bh9) (bh8) (m_hd) (m_ft) (m_fa) (m_le) (m_fo) (m_as) (m_fd) (m_bc) (m_bg) (m_bs) (m_be) (m_b0) (m_b1) (m_cm) (m_hc))) → bh9.toInt + 1 ≤ bh8.toInt → bh8.toInt ≤ m_sz.toInt → lv_has ls 3 [(2, .int (r329)), (1, .int (r302)), (0, .ref (m))] → W p l e ({ frames := 2, cells := 0, slots := 0, locals := 42 }) s m ([.ref (m)] : List Value).toArray below meth c H9 locs9 0 0 (MQ below (hp_QV D cs B (fun V' n' => n = n' ∧ hq_P cs G (fun g => g.1 == 1) V V' ∧ (∃ (m_fr1 : Int32) (m_bh1 : Int32) (m_hd1 : Int32), V' m = some (.inr (13, hm_o q (m_tp) (m_sz) (m_fr1) (m_bh1) (m_hd1) (m_ft) (m_fa) (m_le) (m_fo) (m_as) (m_fd) (m_bc) (m_bg) (m_bs) (m_be) (m_b0) (m_b1) (m_cm) (m_hc))) ∧ ((0 ≤ m_fr1.toInt ∧ m_fr1.toInt ≤ m_sz.toInt) ∧ (0 ≤ m_bh1.toInt ∧ m_bh1.toInt ≤ m_sz.toInt + 1) ∧ (m_bh1.toInt ≤ m_sz.toInt ∨ m_hd1.toInt = 5) ∧ (¬ m_hd1.toInt = 1 ∨ (m_fr1.toInt + 1 ≤ m_bh1.toInt ∧ m_bh1.toInt ≤ m_fr1.toInt + 12)) ∧ (¬ m_hd1.toInt = 3 ∨ (m_fr1.toInt + 2 ≤ m_bh1.toInt ∧ m_bh1.toInt ≤ m_fr1.toInt + 10)) ∧ (¬ m_hd1.toInt = 2 ∨ m_bh1.toInt = m_fr1.toInt + 1))))) ([.ref (m)] : List Value).toArray s 0 0 (hp_F B)) (F0 m 253 ls []) from lp253 _ _ _ _ ls  (y308) rfl hZ hP fx333 (by omega) (by omega) (lv_sub hl [0, 1, 2] rfl)
                intro k9
                induction k9 using Nat.strongRecOn with
                | _ k9 ih253 =>
                  intro V9 H9 locs9 ls  bh8 hk253 hZ hP ho334 hv335 hv336 hl
                  have hb_bh8 := hq_rng bh8
                  have hP_253 := hP
                  refine lv_iload_n hx hb dX13_scan_253 rfl (lv_at hl 0 rfl) ?_
                  refine lv_if_eq (tgt := 284) hx hb dX13_scan_254 (by decide) (fun c337 => ?_) (fun c337 => ?_)
                  · have c337 : (r329).toInt = (0 : Int) := hq_eqi.mp c337
                    refine lv_aload_n hx hb dX13_scan_284 rfl (lv_at hl 2 rfl) ?_
                    refine lv_iload_n hx hb dX13_scan_285 rfl (lv_at hl 0 rfl) ?_
                    refine lv_if_eq (tgt := 306) hx hb dX13_scan_286 (by decide) (fun c338 => ?_) (fun c338 => ?_)
                    · have c338 : (r329).toInt = (0 : Int) := hq_eqi.mp c338
                      refine lv_iload_n hx hb dX13_scan_306 rfl (lv_at hl 1 rfl) ?_
                      refine lv_bipush (v := 59) hx hb dX13_scan_307 (by decide) ?_
                      refine lv_icmp_ne (tgt := 316) hx hb dX13_scan_309 (by decide) (fun c339 => ?_) (fun c339 => ?_)
                      · have c339 : ¬ (r302).toInt = (59 : Int) := fun h9 => c339 (hq_eqi.mpr h9)
                        refine lv_iconst (v := 5) hx hb dX13_scan_316 (by decide) ?_
                        refine hp_put hx hb hts hown hZ ho334 fp_X13_83 rfl rfl (Nat.le_of_ble_eq_true rfl) dX13_scan_317 (fun V340 _ _ e341 o342 hZ => ?_)
                        have e341 : V340 (m) = some (.inr (13, hm_o q (m_tp) (m_sz) (bh9) (bh8) (5) (m_ft) (m_fa) (m_le) (m_fo) (m_as) (m_fd) (m_bc) (m_bg) (m_bs) (m_be) (m_b0) (m_b1) (m_cm) (m_hc))) := e341
                        have hP := hP.put h_m e341 o342 (trivial) rfl
                        have hl343 : (5 : Int32).toInt = 5 := by decide
                        exact hp_vret hx hb hr hlocks hZ ⟨rfl, hP, ⟨bh9, bh8, 5, e341, by omega⟩⟩ dX13_scan_320
                      · have c339 : (r302).toInt = (59 : Int) := hq_eqi.mp c339
                        refine lv_iconst (v := 4) hx hb dX13_scan_312 (by decide) ?_
                        refine lv_goto (tgt := 317) hx hb dX13_scan_313 (by decide) ?_
                        refine hp_put hx hb hts hown hZ ho334 fp_X13_83 rfl rfl (Nat.le_of_ble_eq_true rfl) dX13_scan_317 (fun V344 _ _ e345 o346 hZ => ?_)
                        have e345 : V344 (m) = some (.inr (13, hm_o q (m_tp) (m_sz) (bh9) (bh8) (4) (m_ft) (m_fa) (m_le) (m_fo) (m_as) (m_fd) (m_bc) (m_bg) (m_bs) (m_be) (m_b0) (m_b1) (m_cm) (m_hc))) := e345
                        have hP := hP.put h_m e345 o346 (trivial) rfl
                        have hl347 : (4 : Int32).toInt = 4 := by decide
                        exact hp_vret hx hb hr hlocks hZ ⟨rfl, hP, ⟨bh9, bh8, 4, e345, by omega⟩⟩ dX13_scan_320
                    · have c338 : ¬ (r329).toInt = (0 : Int) := fun h9 => c338 (hq_eqi.mpr h9)
                      refine lv_aload_n hx hb dX13_scan_289 rfl (lv_at hl 2 rfl) ?_
                      refine hp_get (v := .int (bh8)) hx hb hts hown hZ ho334 fl_X13_76 rfl dX13_scan_290 ?_
                      refine lv_aload_n hx hb dX13_scan_293 rfl (lv_at hl 2 rfl) ?_
                      refine hp_get (v := .int (bh9)) hx hb hts hown hZ ho334 fl_X13_60 rfl dX13_scan_294 ?_
                      refine lv_isub hx hb dX13_scan_297 ?_
                      refine lv_topi (fun y348 ey349 => ?_)
                      obtain ⟨k350, hk351, b352, b353⟩ := hq_sub (bh8) (bh9)
                      rw [← ey349] at hk351 b352 b353
                      have hk351 : (y348).toInt = (bh8).toInt - (bh9).toInt + k350 * 4294967296 := hk351
                      obtain rfl : k350 = 0 := by omega
                      refine lv_iconst (v := 1) hx hb dX13_scan_298 (by decide) ?_
                      refine lv_icmp_ne (tgt := 306) hx hb dX13_scan_299 (by decide) (fun c354 => ?_) (fun c354 => ?_)
                      · have c354 : ¬ (y348).toInt = (1 : Int) := fun h9 => c354 (hq_eqi.mpr h9)
                        refine lv_iload_n hx hb dX13_scan_306 rfl (lv_at hl 1 rfl) ?_
                        refine lv_bipush (v := 59) hx hb dX13_scan_307 (by decide) ?_
                        refine lv_icmp_ne (tgt := 316) hx hb dX13_scan_309 (by decide) (fun c355 => ?_) (fun c355 => ?_)
                        · have c355 : ¬ (r302).toInt = (59 : Int) := fun h9 => c355 (hq_eqi.mpr h9)
                          refine lv_iconst (v := 5) hx hb dX13_scan_316 (by decide) ?_
                          refine hp_put hx hb hts hown hZ ho334 fp_X13_83 rfl rfl (Nat.le_of_ble_eq_true rfl) dX13_scan_317 (fun V356 _ _ e357 o358 hZ => ?_)
                          have e357 : V356 (m) = some (.inr (13, hm_o q (m_tp) (m_sz) (bh9) (bh8) (5) (m_ft) (m_fa) (m_le) (m_fo) (m_as) (m_fd) (m_bc) (m_bg) (m_bs) (m_be) (m_b0) (m_b1) (m_cm) (m_hc))) := e357
                          have hP := hP.put h_m e357 o358 (trivial) rfl
                          have hl359 : (5 : Int32).toInt = 5 := by decide
                          exact hp_vret hx hb hr hlocks hZ ⟨rfl, hP, ⟨bh9, bh8, 5, e357, by omega⟩⟩ dX13_scan_320
                        · have c355 : (r302).toInt = (59 : Int) := hq_eqi.mp c355
                          refine lv_iconst (v := 4) hx hb dX13_scan_312 (by decide) ?_
                          refine lv_goto (tgt := 317) hx hb dX13_scan_313 (by decide) ?_
                          refine hp_put hx hb hts hown hZ ho334 fp_X13_83 rfl rfl (Nat.le_of_ble_eq_true rfl) dX13_scan_317 (fun V360 _ _ e361 o362 hZ => ?_)
                          have e361 : V360 (m) = some (.inr (13, hm_o q (m_tp) (m_sz) (bh9) (bh8) (4) (m_ft) (m_fa) (m_le) (m_fo) (m_as) (m_fd) (m_bc) (m_bg) (m_bs) (m_be) (m_b0) (m_b1) (m_cm) (m_hc))) := e361
                          have hP := hP.put h_m e361 o362 (trivial) rfl
                          have hl363 : (4 : Int32).toInt = 4 := by decide
                          exact hp_vret hx hb hr hlocks hZ ⟨rfl, hP, ⟨bh9, bh8, 4, e361, by omega⟩⟩ dX13_scan_320
                      · have c354 : (y348).toInt = (1 : Int) := hq_eqi.mp c354
                        refine lv_iconst (v := 2) hx hb dX13_scan_302 (by decide) ?_
                        refine lv_goto (tgt := 317) hx hb dX13_scan_303 (by decide) ?_
                        refine hp_put hx hb hts hown hZ ho334 fp_X13_83 rfl rfl (Nat.le_of_ble_eq_true rfl) dX13_scan_317 (fun V364 _ _ e365 o366 hZ => ?_)
                        have e365 : V364 (m) = some (.inr (13, hm_o q (m_tp) (m_sz) (bh9) (bh8) (2) (m_ft) (m_fa) (m_le) (m_fo) (m_as) (m_fd) (m_bc) (m_bg) (m_bs) (m_be) (m_b0) (m_b1) (m_cm) (m_hc))) := e365
                        have hP := hP.put h_m e365 o366 (trivial) rfl
                        have hl367 : (2 : Int32).toInt = 2 := by decide
                        exact hp_vret hx hb hr hlocks hZ ⟨rfl, hP, ⟨bh9, bh8, 2, e365, by omega⟩⟩ dX13_scan_320
                  · have c337 : ¬ (r329).toInt = (0 : Int) := fun h9 => c337 (hq_eqi.mpr h9)
                    refine lv_aload_n hx hb dX13_scan_257 rfl (lv_at hl 2 rfl) ?_
                    refine lv_aload_n hx hb dX13_scan_258 rfl (lv_at hl 2 rfl) ?_
                    refine hp_get (v := .int (bh8)) hx hb hts hown hZ ho334 fl_X13_76 rfl dX13_scan_259 ?_
                    refine hp_calli (hp_runV (As := [.int (bh8)]) (rest := []) hx hb hml hown hts (t_X13_byteAt l D cs B G  V9 n hP.1 q hR (m) h_m (bh8) ho334  (by omega) (by omega) (by omega) (by omega) (by omega) (by omega) (by omega) (by omega) (by omega)) hZ ho334 cv_X13_79 rfl rfl ⟨Nat.le_of_ble_eq_true rfl, Nat.le_of_ble_eq_true rfl⟩ rfl hl.1 rfl (Nat.le_of_ble_eq_true rfl) dX13_scan_262 ⟨(Nat.le_of_ble_eq_true rfl), (Nat.le_of_ble_eq_true rfl)⟩) hZ (fun r371 V368 n369 _ _ hw370 hZ => ?_)
                    obtain ⟨rfl, hq372, ho374, hr373⟩ := hw370
                    have hP := hP.trans hq372 (fun _ _ => rfl)
                    have b375 := hq_rng r371
                    refine hp_calli (hp_runS (As := [.int (r371)]) (rest := []) hx hb hml hown hts (t_X13_isFigure l D cs B G  V368 n hP.1  (r371) ) hZ cv_X13_90 rfl rfl ⟨Nat.le_of_ble_eq_true rfl, Nat.le_of_ble_eq_true rfl⟩ rfl hl.1 rfl (Nat.le_of_ble_eq_true rfl) dX13_scan_265 ⟨(Nat.le_of_ble_eq_true rfl), (Nat.le_of_ble_eq_true rfl)⟩) hZ (fun r379 V376 n377 _ _ hw378 hZ => ?_)
                    obtain ⟨rfl, hq380, hr381⟩ := hw378
                    have hP := hP.trans hq380 (fun _ _ => rfl)
                    have b382 := hq_rng r379
                    refine lv_if_eq (tgt := 284) hx hb dX13_scan_268 (by decide) (fun c383 => ?_) (fun c383 => ?_)
                    · have c383 : (r379).toInt = (0 : Int) := hq_eqi.mp c383
                      refine lv_aload_n hx hb dX13_scan_284 rfl (lv_at hl 2 rfl) ?_
                      refine lv_iload_n hx hb dX13_scan_285 rfl (lv_at hl 0 rfl) ?_
                      refine lv_if_eq (tgt := 306) hx hb dX13_scan_286 (by decide) (fun c384 => ?_) (fun c384 => ?_)
                      · have c384 : (r329).toInt = (0 : Int) := hq_eqi.mp c384
                        refine lv_iload_n hx hb dX13_scan_306 rfl (lv_at hl 1 rfl) ?_
                        refine lv_bipush (v := 59) hx hb dX13_scan_307 (by decide) ?_
                        refine lv_icmp_ne (tgt := 316) hx hb dX13_scan_309 (by decide) (fun c385 => ?_) (fun c385 => ?_)
                        · have c385 : ¬ (r302).toInt = (59 : Int) := fun h9 => c385 (hq_eqi.mpr h9)
                          refine lv_iconst (v := 5) hx hb dX13_scan_316 (by decide) ?_
                          have fx386 : V376 (m) = some (.inr (13, hm_o q (m_tp) (m_sz) (bh9) (bh8) (m_hd) (m_ft) (m_fa) (m_le) (m_fo) (m_as) (m_fd) (m_bc) (m_bg) (m_bs) (m_be) (m_b0) (m_b1) (m_cm) (m_hc))) := (hq380.2 (m) _ h_m rfl).trans (ho374)
                          refine hp_put hx hb hts hown hZ fx386 fp_X13_83 rfl rfl (Nat.le_of_ble_eq_true rfl) dX13_scan_317 (fun V387 _ _ e388 o389 hZ => ?_)
                          have e388 : V387 (m) = some (.inr (13, hm_o q (m_tp) (m_sz) (bh9) (bh8) (5) (m_ft) (m_fa) (m_le) (m_fo) (m_as) (m_fd) (m_bc) (m_bg) (m_bs) (m_be) (m_b0) (m_b1) (m_cm) (m_hc))) := e388
                          have hP := hP.put h_m e388 o389 (trivial) rfl
                          have hl390 : (5 : Int32).toInt = 5 := by decide
                          exact hp_vret hx hb hr hlocks hZ ⟨rfl, hP, ⟨bh9, bh8, 5, e388, by omega⟩⟩ dX13_scan_320
                        · have c385 : (r302).toInt = (59 : Int) := hq_eqi.mp c385
                          refine lv_iconst (v := 4) hx hb dX13_scan_312 (by decide) ?_
                          refine lv_goto (tgt := 317) hx hb dX13_scan_313 (by decide) ?_
                          have fx391 : V376 (m) = some (.inr (13, hm_o q (m_tp) (m_sz) (bh9) (bh8) (m_hd) (m_ft) (m_fa) (m_le) (m_fo) (m_as) (m_fd) (m_bc) (m_bg) (m_bs) (m_be) (m_b0) (m_b1) (m_cm) (m_hc))) := (hq380.2 (m) _ h_m rfl).trans (ho374)
                          refine hp_put hx hb hts hown hZ fx391 fp_X13_83 rfl rfl (Nat.le_of_ble_eq_true rfl) dX13_scan_317 (fun V392 _ _ e393 o394 hZ => ?_)
                          have e393 : V392 (m) = some (.inr (13, hm_o q (m_tp) (m_sz) (bh9) (bh8) (4) (m_ft) (m_fa) (m_le) (m_fo) (m_as) (m_fd) (m_bc) (m_bg) (m_bs) (m_be) (m_b0) (m_b1) (m_cm) (m_hc))) := e393
                          have hP := hP.put h_m e393 o394 (trivial) rfl
                          have hl395 : (4 : Int32).toInt = 4 := by decide
                          exact hp_vret hx hb hr hlocks hZ ⟨rfl, hP, ⟨bh9, bh8, 4, e393, by omega⟩⟩ dX13_scan_320
                      · have c384 : ¬ (r329).toInt = (0 : Int) := fun h9 => c384 (hq_eqi.mpr h9)
                        refine lv_aload_n hx hb dX13_scan_289 rfl (lv_at hl 2 rfl) ?_
                        have fx396 : V376 (m) = some (.inr (13, hm_o q (m_tp) (m_sz) (bh9) (bh8) (m_hd) (m_ft) (m_fa) (m_le) (m_fo) (m_as) (m_fd) (m_bc) (m_bg) (m_bs) (m_be) (m_b0) (m_b1) (m_cm) (m_hc))) := (hq380.2 (m) _ h_m rfl).trans (ho374)
                        refine hp_get (v := .int (bh8)) hx hb hts hown hZ fx396 fl_X13_76 rfl dX13_scan_290 ?_
                        refine lv_aload_n hx hb dX13_scan_293 rfl (lv_at hl 2 rfl) ?_
                        refine hp_get (v := .int (bh9)) hx hb hts hown hZ fx396 fl_X13_60 rfl dX13_scan_294 ?_
                        refine lv_isub hx hb dX13_scan_297 ?_
                        refine lv_topi (fun y397 ey398 => ?_)
                        obtain ⟨k399, hk400, b401, b402⟩ := hq_sub (bh8) (bh9)
                        rw [← ey398] at hk400 b401 b402
                        have hk400 : (y397).toInt = (bh8).toInt - (bh9).toInt + k399 * 4294967296 := hk400
                        obtain rfl : k399 = 0 := by omega
                        refine lv_iconst (v := 1) hx hb dX13_scan_298 (by decide) ?_
                        refine lv_icmp_ne (tgt := 306) hx hb dX13_scan_299 (by decide) (fun c403 => ?_) (fun c403 => ?_)
                        · have c403 : ¬ (y397).toInt = (1 : Int) := fun h9 => c403 (hq_eqi.mpr h9)
                          refine lv_iload_n hx hb dX13_scan_306 rfl (lv_at hl 1 rfl) ?_
                          refine lv_bipush (v := 59) hx hb dX13_scan_307 (by decide) ?_
                          refine lv_icmp_ne (tgt := 316) hx hb dX13_scan_309 (by decide) (fun c404 => ?_) (fun c404 => ?_)
                          · have c404 : ¬ (r302).toInt = (59 : Int) := fun h9 => c404 (hq_eqi.mpr h9)
                            refine lv_iconst (v := 5) hx hb dX13_scan_316 (by decide) ?_
                            refine hp_put hx hb hts hown hZ fx396 fp_X13_83 rfl rfl (Nat.le_of_ble_eq_true rfl) dX13_scan_317 (fun V405 _ _ e406 o407 hZ => ?_)
                            have e406 : V405 (m) = some (.inr (13, hm_o q (m_tp) (m_sz) (bh9) (bh8) (5) (m_ft) (m_fa) (m_le) (m_fo) (m_as) (m_fd) (m_bc) (m_bg) (m_bs) (m_be) (m_b0) (m_b1) (m_cm) (m_hc))) := e406
                            have hP := hP.put h_m e406 o407 (trivial) rfl
                            have hl408 : (5 : Int32).toInt = 5 := by decide
                            exact hp_vret hx hb hr hlocks hZ ⟨rfl, hP, ⟨bh9, bh8, 5, e406, by omega⟩⟩ dX13_scan_320
                          · have c404 : (r302).toInt = (59 : Int) := hq_eqi.mp c404
                            refine lv_iconst (v := 4) hx hb dX13_scan_312 (by decide) ?_
                            refine lv_goto (tgt := 317) hx hb dX13_scan_313 (by decide) ?_
                            refine hp_put hx hb hts hown hZ fx396 fp_X13_83 rfl rfl (Nat.le_of_ble_eq_true rfl) dX13_scan_317 (fun V409 _ _ e410 o411 hZ => ?_)
                            have e410 : V409 (m) = some (.inr (13, hm_o q (m_tp) (m_sz) (bh9) (bh8) (4) (m_ft) (m_fa) (m_le) (m_fo) (m_as) (m_fd) (m_bc) (m_bg) (m_bs) (m_be) (m_b0) (m_b1) (m_cm) (m_hc))) := e410
                            have hP := hP.put h_m e410 o411 (trivial) rfl
                            have hl412 : (4 : Int32).toInt = 4 := by decide
                            exact hp_vret hx hb hr hlocks hZ ⟨rfl, hP, ⟨bh9, bh8, 4, e410, by omega⟩⟩ dX13_scan_320
                        · have c403 : (y397).toInt = (1 : Int) := hq_eqi.mp c403
                          refine lv_iconst (v := 2) hx hb dX13_scan_302 (by decide) ?_
                          refine lv_goto (tgt := 317) hx hb dX13_scan_303 (by decide) ?_
                          refine hp_put hx hb hts hown hZ fx396 fp_X13_83 rfl rfl (Nat.le_of_ble_eq_true rfl) dX13_scan_317 (fun V413 _ _ e414 o415 hZ => ?_)
                          have e414 : V413 (m) = some (.inr (13, hm_o q (m_tp) (m_sz) (bh9) (bh8) (2) (m_ft) (m_fa) (m_le) (m_fo) (m_as) (m_fd) (m_bc) (m_bg) (m_bs) (m_be) (m_b0) (m_b1) (m_cm) (m_hc))) := e414
                          have hP := hP.put h_m e414 o415 (trivial) rfl
                          have hl416 : (2 : Int32).toInt = 2 := by decide
                          exact hp_vret hx hb hr hlocks hZ ⟨rfl, hP, ⟨bh9, bh8, 2, e414, by omega⟩⟩ dX13_scan_320
                    · have c383 : ¬ (r379).toInt = (0 : Int) := fun h9 => c383 (hq_eqi.mpr h9)
                      refine lv_aload_n hx hb dX13_scan_271 rfl (lv_at hl 2 rfl) ?_
                      refine lv_dup hx hb dX13_scan_272 rfl ?_
                      have fx417 : V376 (m) = some (.inr (13, hm_o q (m_tp) (m_sz) (bh9) (bh8) (m_hd) (m_ft) (m_fa) (m_le) (m_fo) (m_as) (m_fd) (m_bc) (m_bg) (m_bs) (m_be) (m_b0) (m_b1) (m_cm) (m_hc))) := (hq380.2 (m) _ h_m rfl).trans (ho374)
                      refine hp_get (v := .int (bh8)) hx hb hts hown hZ fx417 fl_X13_76 rfl dX13_scan_273 ?_
                      refine lv_iconst (v := 1) hx hb dX13_scan_276 (by decide) ?_
                      refine lv_iadd hx hb dX13_scan_277 ?_
                      refine lv_topi (fun y418 ey419 => ?_)
                      obtain ⟨k420, hk421, b422, b423⟩ := hq_add (bh8) (1)
                      rw [← ey419] at hk421 b422 b423
                      have hk421 : (y418).toInt = (bh8).toInt + (1 : Int) + k420 * 4294967296 := hk421
                      obtain rfl : k420 = 0 := by omega
                      refine hp_put hx hb hts hown hZ fx417 fp_X13_76 rfl rfl (Nat.le_of_ble_eq_true rfl) dX13_scan_278 (fun V424 _ _ e425 o426 hZ => ?_)
                      have e425 : V424 (m) = some (.inr (13, hm_o q (m_tp) (m_sz) (bh9) (y418) (m_hd) (m_ft) (m_fa) (m_le) (m_fo) (m_as) (m_fd) (m_bc) (m_bg) (m_bs) (m_be) (m_b0) (m_b1) (m_cm) (m_hc))) := e425
                      have hP := hP.put h_m e425 o426 (trivial) rfl
                      refine lv_goto (tgt := 253) hx hb dX13_scan_281 (by decide) ?_
                      exact ih253 _ (by omega) _ _ _ ls  (y418) rfl hZ hP e425 (by omega) (by omega) (lv_sub hl [0, 1, 2] rfl)
              · have c325 : (r302).toInt = (39 : Int) := hq_eqi.mp c325
                have fx427 : V317 (m) = some (.inr (13, hm_o q (m_tp) (m_sz) (bh9) (y308) (m_hd) (m_ft) (m_fa) (m_le) (m_fo) (m_as) (m_fd) (m_bc) (m_bg) (m_bs) (m_be) (m_b0) (m_b1) (m_cm) (m_hc))) := (hq321.2 (m) _ h_m rfl).trans (e315)
                suffices lp162 : ∀ (k9 : Nat) (V9 : hp_V) (H9 : Heap) (locs9 : List Loc) (ls : Array Slot)  (bh8 : Int32), (5000 - bh8.toInt).toNat = k9 → hp_Z D cs B s V9 H9 n locs9 → hq_P cs G (fun g => g.1 == 1) V V9 → V9 (m) = some (.inr (13, hm_o q (m_tp) (m_sz) (bh9) (bh8) (m_hd) (m_ft) (m_fa) (m_le) (m_fo) (m_as) (m_fd) (m_bc) (m_bg) (m_bs) (m_be) (m_b0) (m_b1) (m_cm) (m_hc))) → bh9.toInt + 1 ≤ bh8.toInt → bh8.toInt ≤ m_sz.toInt → lv_has ls 3 [(1, .int (r302)), (0, .ref (m))] → W p l e ({ frames := 2, cells := 0, slots := 0, locals := 42 }) s m ([.ref (m)] : List Value).toArray below meth c H9 locs9 0 0 (MQ below (hp_QV D cs B (fun V' n' => n = n' ∧ hq_P cs G (fun g => g.1 == 1) V V' ∧ (∃ (m_fr1 : Int32) (m_bh1 : Int32) (m_hd1 : Int32), V' m = some (.inr (13, hm_o q (m_tp) (m_sz) (m_fr1) (m_bh1) (m_hd1) (m_ft) (m_fa) (m_le) (m_fo) (m_as) (m_fd) (m_bc) (m_bg) (m_bs) (m_be) (m_b0) (m_b1) (m_cm) (m_hc))) ∧ ((0 ≤ m_fr1.toInt ∧ m_fr1.toInt ≤ m_sz.toInt) ∧ (0 ≤ m_bh1.toInt ∧ m_bh1.toInt ≤ m_sz.toInt + 1) ∧ (m_bh1.toInt ≤ m_sz.toInt ∨ m_hd1.toInt = 5) ∧ (¬ m_hd1.toInt = 1 ∨ (m_fr1.toInt + 1 ≤ m_bh1.toInt ∧ m_bh1.toInt ≤ m_fr1.toInt + 12)) ∧ (¬ m_hd1.toInt = 3 ∨ (m_fr1.toInt + 2 ≤ m_bh1.toInt ∧ m_bh1.toInt ≤ m_fr1.toInt + 10)) ∧ (¬ m_hd1.toInt = 2 ∨ m_bh1.toInt = m_fr1.toInt + 1))))) ([.ref (m)] : List Value).toArray s 0 0 (hp_F B)) (F0 m 162 ls []) from lp162 _ _ _ _ ls  (y308) rfl hZ hP fx427 (by omega) (by omega) (lv_sub hl [0, 1] rfl)
                intro k9
                induction k9 using Nat.strongRecOn with
                | _ k9 ih162 =>
                  intro V9 H9 locs9 ls  bh8 hk162 hZ hP ho428 hv429 hv430 hl
                  have hb_bh8 := hq_rng bh8
                  have hP_162 := hP
                  refine lv_aload_n hx hb dX13_scan_162 rfl (lv_at hl 1 rfl) ?_
                  refine lv_aload_n hx hb dX13_scan_163 rfl (lv_at hl 1 rfl) ?_
                  refine hp_get (v := .int (bh8)) hx hb hts hown hZ ho428 fl_X13_76 rfl dX13_scan_164 ?_
                  refine hp_calli (hp_runV (As := [.int (bh8)]) (rest := []) hx hb hml hown hts (t_X13_byteAt l D cs B G  V9 n hP.1 q hR (m) h_m (bh8) ho428  (by omega) (by omega) (by omega) (by omega) (by omega) (by omega) (by omega) (by omega) (by omega)) hZ ho428 cv_X13_79 rfl rfl ⟨Nat.le_of_ble_eq_true rfl, Nat.le_of_ble_eq_true rfl⟩ rfl hl.1 rfl (Nat.le_of_ble_eq_true rfl) dX13_scan_167 ⟨(Nat.le_of_ble_eq_true rfl), (Nat.le_of_ble_eq_true rfl)⟩) hZ (fun r434 V431 n432 _ _ hw433 hZ => ?_)
                  obtain ⟨rfl, hq435, ho437, hr436⟩ := hw433
                  have hP := hP.trans hq435 (fun _ _ => rfl)
                  have b438 := hq_rng r434
                  refine hp_calli (hp_runS (As := [.int (r434)]) (rest := []) hx hb hml hown hts (t_X13_isSmall l D cs B G  V431 n hP.1  (r434) ) hZ cv_X13_86 rfl rfl ⟨Nat.le_of_ble_eq_true rfl, Nat.le_of_ble_eq_true rfl⟩ rfl hl.1 rfl (Nat.le_of_ble_eq_true rfl) dX13_scan_170 ⟨(Nat.le_of_ble_eq_true rfl), (Nat.le_of_ble_eq_true rfl)⟩) hZ (fun r442 V439 n440 _ _ hw441 hZ => ?_)
                  obtain ⟨rfl, hq443, hr444⟩ := hw441
                  have hP := hP.trans hq443 (fun _ _ => rfl)
                  have b445 := hq_rng r442
                  refine lv_if_eq (tgt := 189) hx hb dX13_scan_173 (by decide) (fun c446 => ?_) (fun c446 => ?_)
                  · have c446 : (r442).toInt = (0 : Int) := hq_eqi.mp c446
                    refine lv_aload_n hx hb dX13_scan_189 rfl (lv_at hl 1 rfl) ?_
                    refine lv_aload_n hx hb dX13_scan_190 rfl (lv_at hl 1 rfl) ?_
                    have fx447 : V439 (m) = some (.inr (13, hm_o q (m_tp) (m_sz) (bh9) (bh8) (m_hd) (m_ft) (m_fa) (m_le) (m_fo) (m_as) (m_fd) (m_bc) (m_bg) (m_bs) (m_be) (m_b0) (m_b1) (m_cm) (m_hc))) := (hq443.2 (m) _ h_m rfl).trans (ho437)
                    refine hp_get (v := .int (bh8)) hx hb hts hown hZ fx447 fl_X13_76 rfl dX13_scan_191 ?_
                    refine hp_calli (hp_runV (As := [.int (bh8)]) (rest := []) hx hb hml hown hts (t_X13_byteAt l D cs B G  V439 n hP.1 q hR (m) h_m (bh8) fx447  (by omega) (by omega) (by omega) (by omega) (by omega) (by omega) (by omega) (by omega) (by omega)) hZ fx447 cv_X13_79 rfl rfl ⟨Nat.le_of_ble_eq_true rfl, Nat.le_of_ble_eq_true rfl⟩ rfl hl.1 rfl (Nat.le_of_ble_eq_true rfl) dX13_scan_194 ⟨(Nat.le_of_ble_eq_true rfl), (Nat.le_of_ble_eq_true rfl)⟩) hZ (fun r451 V448 n449 _ _ hw450 hZ => ?_)
                    obtain ⟨rfl, hq452, ho454, hr453⟩ := hw450
                    have hP := hP.trans hq452 (fun _ _ => rfl)
                    have b455 := hq_rng r451
                    refine lv_bipush (v := 39) hx hb dX13_scan_197 (by decide) ?_
                    refine lv_icmp_ne (tgt := 220) hx hb dX13_scan_199 (by decide) (fun c456 => ?_) (fun c456 => ?_)
                    · have c456 : ¬ (r451).toInt = (39 : Int) := fun h9 => c456 (hq_eqi.mpr h9)
                      refine lv_iconst (v := 0) hx hb dX13_scan_220 (by decide) ?_
                      refine lv_istore_n (lv' := [(2, .int (0)), (1, .int (r302)), (0, .ref (m))]) hx hb dX13_scan_221 rfl hl (by decide) rfl (fun ls hl => ?_)
                      refine lv_aload_n hx hb dX13_scan_222 rfl (lv_at hl 2 rfl) ?_
                      refine lv_iload_n hx hb dX13_scan_223 rfl (lv_at hl 0 rfl) ?_
                      refine lv_if_eq (tgt := 231) hx hb dX13_scan_224 (by decide) (fun c457 => ?_) (fun c457 => absurd (by decide) c457)
                      refine lv_iconst (v := 5) hx hb dX13_scan_231 (by decide) ?_
                      refine hp_put hx hb hts hown hZ ho454 fp_X13_83 rfl rfl (Nat.le_of_ble_eq_true rfl) dX13_scan_232 (fun V458 _ _ e459 o460 hZ => ?_)
                      have e459 : V458 (m) = some (.inr (13, hm_o q (m_tp) (m_sz) (bh9) (bh8) (5) (m_ft) (m_fa) (m_le) (m_fo) (m_as) (m_fd) (m_bc) (m_bg) (m_bs) (m_be) (m_b0) (m_b1) (m_cm) (m_hc))) := e459
                      have hP := hP.put h_m e459 o460 (trivial) rfl
                      refine lv_aload_n hx hb dX13_scan_235 rfl (lv_at hl 2 rfl) ?_
                      refine lv_dup hx hb dX13_scan_236 rfl ?_
                      refine hp_get (v := .int (bh8)) hx hb hts hown hZ e459 fl_X13_76 rfl dX13_scan_237 ?_
                      refine lv_iconst (v := 1) hx hb dX13_scan_240 (by decide) ?_
                      refine lv_iadd hx hb dX13_scan_241 ?_
                      refine lv_topi (fun y461 ey462 => ?_)
                      obtain ⟨k463, hk464, b465, b466⟩ := hq_add (bh8) (1)
                      rw [← ey462] at hk464 b465 b466
                      have hk464 : (y461).toInt = (bh8).toInt + (1 : Int) + k463 * 4294967296 := hk464
                      obtain rfl : k463 = 0 := by omega
                      refine hp_put hx hb hts hown hZ e459 fp_X13_76 rfl rfl (Nat.le_of_ble_eq_true rfl) dX13_scan_242 (fun V467 _ _ e468 o469 hZ => ?_)
                      have e468 : V467 (m) = some (.inr (13, hm_o q (m_tp) (m_sz) (bh9) (y461) (5) (m_ft) (m_fa) (m_le) (m_fo) (m_as) (m_fd) (m_bc) (m_bg) (m_bs) (m_be) (m_b0) (m_b1) (m_cm) (m_hc))) := e468
                      have hP := hP.put h_m e468 o469 (trivial) rfl
                      refine lv_goto (tgt := 320) hx hb dX13_scan_245 (by decide) ?_
                      have hl470 : (5 : Int32).toInt = 5 := by decide
                      exact hp_vret hx hb hr hlocks hZ ⟨rfl, hP, ⟨bh9, y461, 5, e468, by omega⟩⟩ dX13_scan_320
                    · have c456 : (r451).toInt = (39 : Int) := hq_eqi.mp c456
                      refine lv_aload_n hx hb dX13_scan_202 rfl (lv_at hl 1 rfl) ?_
                      refine hp_get (v := .int (bh8)) hx hb hts hown hZ ho454 fl_X13_76 rfl dX13_scan_203 ?_
                      refine lv_aload_n hx hb dX13_scan_206 rfl (lv_at hl 1 rfl) ?_
                      refine hp_get (v := .int (bh9)) hx hb hts hown hZ ho454 fl_X13_60 rfl dX13_scan_207 ?_
                      refine lv_isub hx hb dX13_scan_210 ?_
                      refine lv_topi (fun y471 ey472 => ?_)
                      obtain ⟨k473, hk474, b475, b476⟩ := hq_sub (bh8) (bh9)
                      rw [← ey472] at hk474 b475 b476
                      have hk474 : (y471).toInt = (bh8).toInt - (bh9).toInt + k473 * 4294967296 := hk474
                      obtain rfl : k473 = 0 := by omega
                      refine lv_bipush (v := 9) hx hb dX13_scan_211 (by decide) ?_
                      refine lv_icmp_gt (tgt := 220) hx hb dX13_scan_213 (by decide) (fun c477 => ?_) (fun c477 => ?_)
                      · have c477 : (9 : Int) < (y471).toInt := hq_lti.mp c477
                        refine lv_iconst (v := 0) hx hb dX13_scan_220 (by decide) ?_
                        refine lv_istore_n (lv' := [(2, .int (0)), (1, .int (r302)), (0, .ref (m))]) hx hb dX13_scan_221 rfl hl (by decide) rfl (fun ls hl => ?_)
                        refine lv_aload_n hx hb dX13_scan_222 rfl (lv_at hl 2 rfl) ?_
                        refine lv_iload_n hx hb dX13_scan_223 rfl (lv_at hl 0 rfl) ?_
                        refine lv_if_eq (tgt := 231) hx hb dX13_scan_224 (by decide) (fun c478 => ?_) (fun c478 => absurd (by decide) c478)
                        refine lv_iconst (v := 5) hx hb dX13_scan_231 (by decide) ?_
                        refine hp_put hx hb hts hown hZ ho454 fp_X13_83 rfl rfl (Nat.le_of_ble_eq_true rfl) dX13_scan_232 (fun V479 _ _ e480 o481 hZ => ?_)
                        have e480 : V479 (m) = some (.inr (13, hm_o q (m_tp) (m_sz) (bh9) (bh8) (5) (m_ft) (m_fa) (m_le) (m_fo) (m_as) (m_fd) (m_bc) (m_bg) (m_bs) (m_be) (m_b0) (m_b1) (m_cm) (m_hc))) := e480
                        have hP := hP.put h_m e480 o481 (trivial) rfl
                        refine lv_aload_n hx hb dX13_scan_235 rfl (lv_at hl 2 rfl) ?_
                        refine lv_dup hx hb dX13_scan_236 rfl ?_
                        refine hp_get (v := .int (bh8)) hx hb hts hown hZ e480 fl_X13_76 rfl dX13_scan_237 ?_
                        refine lv_iconst (v := 1) hx hb dX13_scan_240 (by decide) ?_
                        refine lv_iadd hx hb dX13_scan_241 ?_
                        refine lv_topi (fun y482 ey483 => ?_)
                        obtain ⟨k484, hk485, b486, b487⟩ := hq_add (bh8) (1)
                        rw [← ey483] at hk485 b486 b487
                        have hk485 : (y482).toInt = (bh8).toInt + (1 : Int) + k484 * 4294967296 := hk485
                        obtain rfl : k484 = 0 := by omega
                        refine hp_put hx hb hts hown hZ e480 fp_X13_76 rfl rfl (Nat.le_of_ble_eq_true rfl) dX13_scan_242 (fun V488 _ _ e489 o490 hZ => ?_)
                        have e489 : V488 (m) = some (.inr (13, hm_o q (m_tp) (m_sz) (bh9) (y482) (5) (m_ft) (m_fa) (m_le) (m_fo) (m_as) (m_fd) (m_bc) (m_bg) (m_bs) (m_be) (m_b0) (m_b1) (m_cm) (m_hc))) := e489
                        have hP := hP.put h_m e489 o490 (trivial) rfl
                        refine lv_goto (tgt := 320) hx hb dX13_scan_245 (by decide) ?_
                        have hl491 : (5 : Int32).toInt = 5 := by decide
                        exact hp_vret hx hb hr hlocks hZ ⟨rfl, hP, ⟨bh9, y482, 5, e489, by omega⟩⟩ dX13_scan_320
                      · have c477 : ¬ (9 : Int) < (y471).toInt := fun h9 => c477 (hq_lti.mpr h9)
                        refine lv_iconst (v := 1) hx hb dX13_scan_216 (by decide) ?_
                        refine lv_goto (tgt := 221) hx hb dX13_scan_217 (by decide) ?_
                        refine lv_istore_n (lv' := [(2, .int (1)), (1, .int (r302)), (0, .ref (m))]) hx hb dX13_scan_221 rfl hl (by decide) rfl (fun ls hl => ?_)
                        refine lv_aload_n hx hb dX13_scan_222 rfl (lv_at hl 2 rfl) ?_
                        refine lv_iload_n hx hb dX13_scan_223 rfl (lv_at hl 0 rfl) ?_
                        refine lv_if_eq (tgt := 231) hx hb dX13_scan_224 (by decide) (fun c492 => absurd c492 (by decide)) (fun c492 => ?_)
                        refine lv_iconst (v := 3) hx hb dX13_scan_227 (by decide) ?_
                        refine lv_goto (tgt := 232) hx hb dX13_scan_228 (by decide) ?_
                        refine hp_put hx hb hts hown hZ ho454 fp_X13_83 rfl rfl (Nat.le_of_ble_eq_true rfl) dX13_scan_232 (fun V493 _ _ e494 o495 hZ => ?_)
                        have e494 : V493 (m) = some (.inr (13, hm_o q (m_tp) (m_sz) (bh9) (bh8) (3) (m_ft) (m_fa) (m_le) (m_fo) (m_as) (m_fd) (m_bc) (m_bg) (m_bs) (m_be) (m_b0) (m_b1) (m_cm) (m_hc))) := e494
                        have hP := hP.put h_m e494 o495 (trivial) rfl
                        refine lv_aload_n hx hb dX13_scan_235 rfl (lv_at hl 2 rfl) ?_
                        refine lv_dup hx hb dX13_scan_236 rfl ?_
                        refine hp_get (v := .int (bh8)) hx hb hts hown hZ e494 fl_X13_76 rfl dX13_scan_237 ?_
                        refine lv_iconst (v := 1) hx hb dX13_scan_240 (by decide) ?_
                        refine lv_iadd hx hb dX13_scan_241 ?_
                        refine lv_topi (fun y496 ey497 => ?_)
                        obtain ⟨k498, hk499, b500, b501⟩ := hq_add (bh8) (1)
                        rw [← ey497] at hk499 b500 b501
                        have hk499 : (y496).toInt = (bh8).toInt + (1 : Int) + k498 * 4294967296 := hk499
                        obtain rfl : k498 = 0 := by omega
                        refine hp_put hx hb hts hown hZ e494 fp_X13_76 rfl rfl (Nat.le_of_ble_eq_true rfl) dX13_scan_242 (fun V502 _ _ e503 o504 hZ => ?_)
                        have e503 : V502 (m) = some (.inr (13, hm_o q (m_tp) (m_sz) (bh9) (y496) (3) (m_ft) (m_fa) (m_le) (m_fo) (m_as) (m_fd) (m_bc) (m_bg) (m_bs) (m_be) (m_b0) (m_b1) (m_cm) (m_hc))) := e503
                        have hP := hP.put h_m e503 o504 (trivial) rfl
                        refine lv_goto (tgt := 320) hx hb dX13_scan_245 (by decide) ?_
                        have hl505 : (3 : Int32).toInt = 3 := by decide
                        exact hp_vret hx hb hr hlocks hZ ⟨rfl, hP, ⟨bh9, y496, 3, e503, by omega⟩⟩ dX13_scan_320
                  · have c446 : ¬ (r442).toInt = (0 : Int) := fun h9 => c446 (hq_eqi.mpr h9)
                    refine lv_aload_n hx hb dX13_scan_176 rfl (lv_at hl 1 rfl) ?_
                    refine lv_dup hx hb dX13_scan_177 rfl ?_
                    have fx506 : V439 (m) = some (.inr (13, hm_o q (m_tp) (m_sz) (bh9) (bh8) (m_hd) (m_ft) (m_fa) (m_le) (m_fo) (m_as) (m_fd) (m_bc) (m_bg) (m_bs) (m_be) (m_b0) (m_b1) (m_cm) (m_hc))) := (hq443.2 (m) _ h_m rfl).trans (ho437)
                    refine hp_get (v := .int (bh8)) hx hb hts hown hZ fx506 fl_X13_76 rfl dX13_scan_178 ?_
                    refine lv_iconst (v := 1) hx hb dX13_scan_181 (by decide) ?_
                    refine lv_iadd hx hb dX13_scan_182 ?_
                    refine lv_topi (fun y507 ey508 => ?_)
                    obtain ⟨k509, hk510, b511, b512⟩ := hq_add (bh8) (1)
                    rw [← ey508] at hk510 b511 b512
                    have hk510 : (y507).toInt = (bh8).toInt + (1 : Int) + k509 * 4294967296 := hk510
                    obtain rfl : k509 = 0 := by omega
                    refine hp_put hx hb hts hown hZ fx506 fp_X13_76 rfl rfl (Nat.le_of_ble_eq_true rfl) dX13_scan_183 (fun V513 _ _ e514 o515 hZ => ?_)
                    have e514 : V513 (m) = some (.inr (13, hm_o q (m_tp) (m_sz) (bh9) (y507) (m_hd) (m_ft) (m_fa) (m_le) (m_fo) (m_as) (m_fd) (m_bc) (m_bg) (m_bs) (m_be) (m_b0) (m_b1) (m_cm) (m_hc))) := e514
                    have hP := hP.put h_m e514 o515 (trivial) rfl
                    refine lv_goto (tgt := 162) hx hb dX13_scan_186 (by decide) ?_
                    exact ih162 _ (by omega) _ _ _ ls  (y507) rfl hZ hP e514 (by omega) (by omega) (lv_sub hl [0, 1] rfl)
            · have c324 : ¬ (r320).toInt = (0 : Int) := fun h9 => c324 (hq_eqi.mpr h9)
              have fx516 : V317 (m) = some (.inr (13, hm_o q (m_tp) (m_sz) (bh9) (y308) (m_hd) (m_ft) (m_fa) (m_le) (m_fo) (m_as) (m_fd) (m_bc) (m_bg) (m_bs) (m_be) (m_b0) (m_b1) (m_cm) (m_hc))) := (hq321.2 (m) _ h_m rfl).trans (e315)
              suffices lp103 : ∀ (k9 : Nat) (V9 : hp_V) (H9 : Heap) (locs9 : List Loc) (ls : Array Slot)  (bh8 : Int32), (5000 - bh8.toInt).toNat = k9 → hp_Z D cs B s V9 H9 n locs9 → hq_P cs G (fun g => g.1 == 1) V V9 → V9 (m) = some (.inr (13, hm_o q (m_tp) (m_sz) (bh9) (bh8) (m_hd) (m_ft) (m_fa) (m_le) (m_fo) (m_as) (m_fd) (m_bc) (m_bg) (m_bs) (m_be) (m_b0) (m_b1) (m_cm) (m_hc))) → bh9.toInt + 1 ≤ bh8.toInt → bh8.toInt ≤ m_sz.toInt → lv_has ls 3 [(1, .int (r302)), (0, .ref (m))] → W p l e ({ frames := 2, cells := 0, slots := 0, locals := 42 }) s m ([.ref (m)] : List Value).toArray below meth c H9 locs9 0 0 (MQ below (hp_QV D cs B (fun V' n' => n = n' ∧ hq_P cs G (fun g => g.1 == 1) V V' ∧ (∃ (m_fr1 : Int32) (m_bh1 : Int32) (m_hd1 : Int32), V' m = some (.inr (13, hm_o q (m_tp) (m_sz) (m_fr1) (m_bh1) (m_hd1) (m_ft) (m_fa) (m_le) (m_fo) (m_as) (m_fd) (m_bc) (m_bg) (m_bs) (m_be) (m_b0) (m_b1) (m_cm) (m_hc))) ∧ ((0 ≤ m_fr1.toInt ∧ m_fr1.toInt ≤ m_sz.toInt) ∧ (0 ≤ m_bh1.toInt ∧ m_bh1.toInt ≤ m_sz.toInt + 1) ∧ (m_bh1.toInt ≤ m_sz.toInt ∨ m_hd1.toInt = 5) ∧ (¬ m_hd1.toInt = 1 ∨ (m_fr1.toInt + 1 ≤ m_bh1.toInt ∧ m_bh1.toInt ≤ m_fr1.toInt + 12)) ∧ (¬ m_hd1.toInt = 3 ∨ (m_fr1.toInt + 2 ≤ m_bh1.toInt ∧ m_bh1.toInt ≤ m_fr1.toInt + 10)) ∧ (¬ m_hd1.toInt = 2 ∨ m_bh1.toInt = m_fr1.toInt + 1))))) ([.ref (m)] : List Value).toArray s 0 0 (hp_F B)) (F0 m 103 ls []) from lp103 _ _ _ _ ls  (y308) rfl hZ hP fx516 (by omega) (by omega) (lv_sub hl [0, 1] rfl)
              intro k9
              induction k9 using Nat.strongRecOn with
              | _ k9 ih103 =>
                intro V9 H9 locs9 ls  bh8 hk103 hZ hP ho517 hv518 hv519 hl
                have hb_bh8 := hq_rng bh8
                have hP_103 := hP
                refine lv_aload_n hx hb dX13_scan_103 rfl (lv_at hl 1 rfl) ?_
                refine lv_aload_n hx hb dX13_scan_104 rfl (lv_at hl 1 rfl) ?_
                refine hp_get (v := .int (bh8)) hx hb hts hown hZ ho517 fl_X13_76 rfl dX13_scan_105 ?_
                refine hp_calli (hp_runV (As := [.int (bh8)]) (rest := []) hx hb hml hown hts (t_X13_byteAt l D cs B G  V9 n hP.1 q hR (m) h_m (bh8) ho517  (by omega) (by omega) (by omega) (by omega) (by omega) (by omega) (by omega) (by omega) (by omega)) hZ ho517 cv_X13_79 rfl rfl ⟨Nat.le_of_ble_eq_true rfl, Nat.le_of_ble_eq_true rfl⟩ rfl hl.1 rfl (Nat.le_of_ble_eq_true rfl) dX13_scan_108 ⟨(Nat.le_of_ble_eq_true rfl), (Nat.le_of_ble_eq_true rfl)⟩) hZ (fun r523 V520 n521 _ _ hw522 hZ => ?_)
                obtain ⟨rfl, hq524, ho526, hr525⟩ := hw522
                have hP := hP.trans hq524 (fun _ _ => rfl)
                have b527 := hq_rng r523
                refine hp_calli (hp_runS (As := [.int (r523)]) (rest := []) hx hb hml hown hts (t_X13_isSmall l D cs B G  V520 n hP.1  (r523) ) hZ cv_X13_86 rfl rfl ⟨Nat.le_of_ble_eq_true rfl, Nat.le_of_ble_eq_true rfl⟩ rfl hl.1 rfl (Nat.le_of_ble_eq_true rfl) dX13_scan_111 ⟨(Nat.le_of_ble_eq_true rfl), (Nat.le_of_ble_eq_true rfl)⟩) hZ (fun r531 V528 n529 _ _ hw530 hZ => ?_)
                obtain ⟨rfl, hq532, hr533⟩ := hw530
                have hP := hP.trans hq532 (fun _ _ => rfl)
                have b534 := hq_rng r531
                refine lv_if_eq (tgt := 130) hx hb dX13_scan_114 (by decide) (fun c535 => ?_) (fun c535 => ?_)
                · have c535 : (r531).toInt = (0 : Int) := hq_eqi.mp c535
                  refine lv_aload_n hx hb dX13_scan_130 rfl (lv_at hl 1 rfl) ?_
                  refine lv_aload_n hx hb dX13_scan_131 rfl (lv_at hl 1 rfl) ?_
                  have fx536 : V528 (m) = some (.inr (13, hm_o q (m_tp) (m_sz) (bh9) (bh8) (m_hd) (m_ft) (m_fa) (m_le) (m_fo) (m_as) (m_fd) (m_bc) (m_bg) (m_bs) (m_be) (m_b0) (m_b1) (m_cm) (m_hc))) := (hq532.2 (m) _ h_m rfl).trans (ho526)
                  refine hp_get (v := .int (bh8)) hx hb hts hown hZ fx536 fl_X13_76 rfl dX13_scan_132 ?_
                  refine lv_aload_n hx hb dX13_scan_135 rfl (lv_at hl 1 rfl) ?_
                  refine hp_get (v := .int (bh9)) hx hb hts hown hZ fx536 fl_X13_60 rfl dX13_scan_136 ?_
                  refine lv_isub hx hb dX13_scan_139 ?_
                  refine lv_topi (fun y537 ey538 => ?_)
                  obtain ⟨k539, hk540, b541, b542⟩ := hq_sub (bh8) (bh9)
                  rw [← ey538] at hk540 b541 b542
                  have hk540 : (y537).toInt = (bh8).toInt - (bh9).toInt + k539 * 4294967296 := hk540
                  obtain rfl : k539 = 0 := by omega
                  refine lv_bipush (v := 12) hx hb dX13_scan_140 (by decide) ?_
                  refine lv_icmp_le (tgt := 149) hx hb dX13_scan_142 (by decide) (fun c543 => ?_) (fun c543 => ?_)
                  · have c543 : (y537).toInt ≤ (12 : Int) := hq_lei.mp c543
                    refine lv_iconst (v := 1) hx hb dX13_scan_149 (by decide) ?_
                    refine hp_put hx hb hts hown hZ fx536 fp_X13_83 rfl rfl (Nat.le_of_ble_eq_true rfl) dX13_scan_150 (fun V544 _ _ e545 o546 hZ => ?_)
                    have e545 : V544 (m) = some (.inr (13, hm_o q (m_tp) (m_sz) (bh9) (bh8) (1) (m_ft) (m_fa) (m_le) (m_fo) (m_as) (m_fd) (m_bc) (m_bg) (m_bs) (m_be) (m_b0) (m_b1) (m_cm) (m_hc))) := e545
                    have hP := hP.put h_m e545 o546 (trivial) rfl
                    refine lv_goto (tgt := 320) hx hb dX13_scan_153 (by decide) ?_
                    have hl547 : (1 : Int32).toInt = 1 := by decide
                    exact hp_vret hx hb hr hlocks hZ ⟨rfl, hP, ⟨bh9, bh8, 1, e545, by omega⟩⟩ dX13_scan_320
                  · have c543 : ¬ (y537).toInt ≤ (12 : Int) := fun h9 => c543 (hq_lei.mpr h9)
                    refine lv_iconst (v := 5) hx hb dX13_scan_145 (by decide) ?_
                    refine lv_goto (tgt := 150) hx hb dX13_scan_146 (by decide) ?_
                    refine hp_put hx hb hts hown hZ fx536 fp_X13_83 rfl rfl (Nat.le_of_ble_eq_true rfl) dX13_scan_150 (fun V548 _ _ e549 o550 hZ => ?_)
                    have e549 : V548 (m) = some (.inr (13, hm_o q (m_tp) (m_sz) (bh9) (bh8) (5) (m_ft) (m_fa) (m_le) (m_fo) (m_as) (m_fd) (m_bc) (m_bg) (m_bs) (m_be) (m_b0) (m_b1) (m_cm) (m_hc))) := e549
                    have hP := hP.put h_m e549 o550 (trivial) rfl
                    refine lv_goto (tgt := 320) hx hb dX13_scan_153 (by decide) ?_
                    have hl551 : (5 : Int32).toInt = 5 := by decide
                    exact hp_vret hx hb hr hlocks hZ ⟨rfl, hP, ⟨bh9, bh8, 5, e549, by omega⟩⟩ dX13_scan_320
                · have c535 : ¬ (r531).toInt = (0 : Int) := fun h9 => c535 (hq_eqi.mpr h9)
                  refine lv_aload_n hx hb dX13_scan_117 rfl (lv_at hl 1 rfl) ?_
                  refine lv_dup hx hb dX13_scan_118 rfl ?_
                  have fx552 : V528 (m) = some (.inr (13, hm_o q (m_tp) (m_sz) (bh9) (bh8) (m_hd) (m_ft) (m_fa) (m_le) (m_fo) (m_as) (m_fd) (m_bc) (m_bg) (m_bs) (m_be) (m_b0) (m_b1) (m_cm) (m_hc))) := (hq532.2 (m) _ h_m rfl).trans (ho526)
                  refine hp_get (v := .int (bh8)) hx hb hts hown hZ fx552 fl_X13_76 rfl dX13_scan_119 ?_
                  refine lv_iconst (v := 1) hx hb dX13_scan_122 (by decide) ?_
                  refine lv_iadd hx hb dX13_scan_123 ?_
                  refine lv_topi (fun y553 ey554 => ?_)
                  obtain ⟨k555, hk556, b557, b558⟩ := hq_add (bh8) (1)
                  rw [← ey554] at hk556 b557 b558
                  have hk556 : (y553).toInt = (bh8).toInt + (1 : Int) + k555 * 4294967296 := hk556
                  obtain rfl : k555 = 0 := by omega
                  refine hp_put hx hb hts hown hZ fx552 fp_X13_76 rfl rfl (Nat.le_of_ble_eq_true rfl) dX13_scan_124 (fun V559 _ _ e560 o561 hZ => ?_)
                  have e560 : V559 (m) = some (.inr (13, hm_o q (m_tp) (m_sz) (bh9) (y553) (m_hd) (m_ft) (m_fa) (m_le) (m_fo) (m_as) (m_fd) (m_bc) (m_bg) (m_bs) (m_be) (m_b0) (m_b1) (m_cm) (m_hc))) := e560
                  have hP := hP.put h_m e560 o561 (trivial) rfl
                  refine lv_goto (tgt := 103) hx hb dX13_scan_127 (by decide) ?_
                  exact ih103 _ (by omega) _ _ _ ls  (y553) rfl hZ hP e560 (by omega) (by omega) (lv_sub hl [0, 1] rfl)
          · have c307 : (bh9).toInt = (m_sz).toInt := hq_eqi.mp c307
            refine lv_aload_n hx hb dX13_scan_80 rfl (lv_at hl 1 rfl) ?_
            refine lv_iconst (v := 0) hx hb dX13_scan_81 (by decide) ?_
            refine hp_put hx hb hts hown hZ ho305 fp_X13_83 rfl rfl (Nat.le_of_ble_eq_true rfl) dX13_scan_82 (fun V562 _ _ e563 o564 hZ => ?_)
            have e563 : V562 (m) = some (.inr (13, hm_o q (m_tp) (m_sz) (bh9) (bh9) (0) (m_ft) (m_fa) (m_le) (m_fo) (m_as) (m_fd) (m_bc) (m_bg) (m_bs) (m_be) (m_b0) (m_b1) (m_cm) (m_hc))) := e563
            have hP := hP.put h_m e563 o564 (trivial) rfl
            have hl565 : (0 : Int32).toInt = 0 := by decide
            exact hp_vret hx hb hr hlocks hZ ⟨rfl, hP, ⟨bh9, bh9, 0, e563, by omega⟩⟩ dX13_scan_85
        · have c295 : (y292).toInt = (10 : Int) := hq_eqi.mp c295
          refine lv_aload_n hx hb dX13_scan_39 rfl (lv_at hl 0 rfl) ?_
          refine lv_dup hx hb dX13_scan_40 rfl ?_
          refine hp_get (v := .int (bh9)) hx hb hts hown hZ ho1 fl_X13_76 rfl dX13_scan_41 ?_
          refine lv_iconst (v := 1) hx hb dX13_scan_44 (by decide) ?_
          refine lv_iadd hx hb dX13_scan_45 ?_
          refine lv_topi (fun y566 ey567 => ?_)
          obtain ⟨k568, hk569, b570, b571⟩ := hq_add (bh9) (1)
          rw [← ey567] at hk569 b570 b571
          have hk569 : (y566).toInt = (bh9).toInt + (1 : Int) + k568 * 4294967296 := hk569
          obtain rfl : k568 = 0 := by omega
          refine hp_put hx hb hts hown hZ ho1 fp_X13_76 rfl rfl (Nat.le_of_ble_eq_true rfl) dX13_scan_46 (fun V572 _ _ e573 o574 hZ => ?_)
          have e573 : V572 (m) = some (.inr (13, hm_o q (m_tp) (m_sz) (m_fr) (y566) (m_hd) (m_ft) (m_fa) (m_le) (m_fo) (m_as) (m_fd) (m_bc) (m_bg) (m_bs) (m_be) (m_b0) (m_b1) (m_cm) (m_hc))) := e573
          have hP := hP.put h_m e573 o574 (trivial) rfl
          refine lv_goto (tgt := 0) hx hb dX13_scan_49 (by decide) ?_
          exact ih0 _ (by omega) _ _ _ ls  (y566) rfl hZ hP e573 (by omega) (by omega) (lv_sub hl [0] rfl)

set_option maxHeartbeats 4000000 in
set_option maxRecDepth 100000 in
theorem t_X13_is (l : Launch) (D : va_G) (cs : Nat → ClassId) (B : Nat) (G : hq_G) (V : hp_V) (n : Nat) (hI : hq_I cs G V) (q : Nat) (hR : hq_RT G q) (m : Nat) (h_m : G m = some (24, 0, 0, 0)) (i : Nat) (h_i : i < 18) {m_tp m_sz m_fr m_bh m_hd m_ft m_fa m_le m_fo m_as m_fd m_bc m_bg m_bs m_be m_b0 m_b1 m_cm m_hc : Int32} (ho_m : V m = some (.inr (13, hm_o q (m_tp) (m_sz) (m_fr) (m_bh) (m_hd) (m_ft) (m_fa) (m_le) (m_fo) (m_as) (m_fd) (m_bc) (m_bg) (m_bs) (m_be) (m_b0) (m_b1) (m_cm) (m_hc)))) (hi_m0 : 0 ≤ m_tp.toInt ∧ m_tp.toInt ≤ 4000) (hi_m1 : 0 ≤ m_sz.toInt ∧ m_sz.toInt ≤ 4000) (hi_m2 : 0 ≤ m_le.toInt ∧ m_le.toInt ≤ 276) (hi_m3 : 0 ≤ m_fo.toInt ∧ m_fo.toInt ≤ 4) (hi_m4 : 0 ≤ m_as.toInt ∧ m_as.toInt ≤ 4000) (hi_m5 : 0 ≤ m_fd.toInt ∧ m_fd.toInt ≤ 900) (hi_m6 : 0 ≤ m_cm.toInt ∧ m_cm.toInt ≤ 2) (hi_m7 : 0 ≤ m_hc.toInt ∧ m_hc.toInt ≤ 1) (hi_m8 : 0 ≤ m_fr.toInt ∧ m_fr.toInt ≤ m_sz.toInt) (hi_m9 : 0 ≤ m_bh.toInt ∧ m_bh.toInt ≤ m_sz.toInt + 1) (hi_m10 : m_bh.toInt ≤ m_sz.toInt ∨ m_hd.toInt = 5) (hi_m11 : ¬ m_hd.toInt = 1 ∨ (m_fr.toInt + 1 ≤ m_bh.toInt ∧ m_bh.toInt ≤ m_fr.toInt + 12)) (hi_m12 : ¬ m_hd.toInt = 3 ∨ (m_fr.toInt + 2 ≤ m_bh.toInt ∧ m_bh.toInt ≤ m_fr.toInt + 10)) (hi_m13 : ¬ m_hd.toInt = 2 ∨ m_bh.toInt = m_fr.toInt + 1) : hp_M l yX13_is cX13_is 4 (some .boolean) ({ frames := 5, cells := 0, slots := 0, locals := 106 }) D cs B V n [.ref (m), .ref (cs (100 + i))] (hp_QI D cs B (fun r V' n' => n = n' ∧ hq_P cs G (fun _ => false) V V' ∧ (V' m = some (.inr (13, hm_o q (m_tp) (m_sz) (m_fr) (m_bh) (m_hd) (m_ft) (m_fa) (m_le) (m_fo) (m_as) (m_fd) (m_bc) (m_bg) (m_bs) (m_be) (m_b0) (m_b1) (m_cm) (m_hc)))) ∧ (r.toInt = 0 ∨ (r.toInt = 1 ∧ m_hd.toInt = 1)))) 0 0 := by
  refine hp_walk (R0 := RX13) (by decide) rfl ?_ (Nat.le_of_ble_eq_true rfl)
  intro p e s m below meth c ls hx hb hr hts hown hlocks hin hml hZ hl
  have hP : hq_P cs G (fun _ => false) V V := hq_P.rf hI
  have hl : lv_has ls 4 [(0, .ref (m)), (1, .ref (cs (100 + i)))] := hl
  have hb_m_tp := hq_rng m_tp
  have hb_m_sz := hq_rng m_sz
  have hb_m_fr := hq_rng m_fr
  have hb_m_bh := hq_rng m_bh
  have hb_m_hd := hq_rng m_hd
  have hb_m_ft := hq_rng m_ft
  have hb_m_fa := hq_rng m_fa
  have hb_m_le := hq_rng m_le
  have hb_m_fo := hq_rng m_fo
  have hb_m_as := hq_rng m_as
  have hb_m_fd := hq_rng m_fd
  have hb_m_bc := hq_rng m_bc
  have hb_m_bg := hq_rng m_bg
  have hb_m_bs := hq_rng m_bs
  have hb_m_be := hq_rng m_be
  have hb_m_b0 := hq_rng m_b0
  have hb_m_b1 := hq_rng m_b1
  have hb_m_cm := hq_rng m_cm
  have hb_m_hc := hq_rng m_hc
  have hsl := (hs_all i h_i).1
  refine hq_join (P := fun y => (y.toInt = 0 ∨ (y.toInt = 1 ∧ m_hd.toInt = 1 ∧ m_bh.toInt - m_fr.toInt = (hp_sl.getD i 0 : Nat)))) (f := fun y => F0 m 29 ls (.int y :: [])) (fun y1 hy2 => ?_) (fun jn29 => ?_)
  · have hy2 : (y1.toInt = 0 ∨ (y1.toInt = 1 ∧ m_hd.toInt = 1 ∧ m_bh.toInt - m_fr.toInt = (hp_sl.getD i 0 : Nat))) := hy2
    have b3 := hq_rng y1
    refine lv_istore_n (lv' := [(2, .int (y1)), (0, .ref (m)), (1, .ref (cs (100 + i)))]) hx hb dX13_is_29 rfl hl (by decide) rfl (fun ls hl => ?_)
    refine lv_iconst (v := 0) hx hb dX13_is_30 (by decide) ?_
    refine lv_istore_n (lv' := [(3, .int (0)), (2, .int (y1)), (0, .ref (m)), (1, .ref (cs (100 + i)))]) hx hb dX13_is_31 rfl hl (by decide) rfl (fun ls hl => ?_)
    have hl4 : (0 : Int32).toInt = 0 := by decide
    suffices lp32 : ∀ (k9 : Nat) (V9 : hp_V) (H9 : Heap) (locs9 : List Loc) (ls : Array Slot) (iz : Int32) (k : Int32), (1000 - k.toInt).toNat = k9 → hp_Z D cs B s V9 H9 n locs9 → hq_P cs G (fun _ => false) V V9 → 0 ≤ k.toInt → k.toInt ≤ 100 → (iz.toInt = 0 ∨ (iz.toInt = 1 ∧ m_hd.toInt = 1 ∧ m_bh.toInt - m_fr.toInt = (hp_sl.getD i 0 : Nat))) → lv_has ls 4 [(3, .int (k)), (2, .int (iz)), (0, .ref (m)), (1, .ref (cs (100 + i)))] → W p l e ({ frames := 5, cells := 0, slots := 0, locals := 106 }) s m ([.ref (m), .ref (cs (100 + i))] : List Value).toArray below meth c H9 locs9 0 0 (MQ below (hp_QI D cs B (fun r V' n' => n = n' ∧ hq_P cs G (fun _ => false) V V' ∧ (V' m = some (.inr (13, hm_o q (m_tp) (m_sz) (m_fr) (m_bh) (m_hd) (m_ft) (m_fa) (m_le) (m_fo) (m_as) (m_fd) (m_bc) (m_bg) (m_bs) (m_be) (m_b0) (m_b1) (m_cm) (m_hc)))) ∧ (r.toInt = 0 ∨ (r.toInt = 1 ∧ m_hd.toInt = 1)))) ([.ref (m), .ref (cs (100 + i))] : List Value).toArray s 0 0 (hp_F B)) (F0 m 32 ls []) from lp32 _ _ _ _ ls (y1) (0) rfl hZ hP (by omega) (by omega) (by omega) (lv_sub hl [0, 1, 2, 3] rfl)
    intro k9
    induction k9 using Nat.strongRecOn with
    | _ k9 ih32 =>
      intro V9 H9 locs9 ls iz k  hk32 hZ hP  hv5 hv6 hv7 hl
      have hb_iz := hq_rng iz
      have hb_k := hq_rng k
      have hP_32 := hP
      refine lv_iload_n hx hb dX13_is_32 rfl (lv_at hl 0 rfl) ?_
      refine lv_aload_n hx hb dX13_is_33 rfl (lv_at hl 3 rfl) ?_
      refine hp_calli (hp_runVS (As := []) (rest := [.int (k)]) hx hb hml hown hts (s_length l D cs B V9 n i h_i) hZ h_i rfl cv_X13_93 rfl rfl ⟨Nat.le_of_ble_eq_true rfl, Nat.le_of_ble_eq_true rfl⟩ rfl hl.1 rfl (Nat.le_of_ble_eq_true rfl) dX13_is_34 ⟨Nat.le_of_ble_eq_true rfl, Nat.le_of_ble_eq_true rfl⟩) hZ (fun r11 V8 n9 _ _ hw10 hZ => ?_)
      obtain ⟨rfl, rfl, hr12⟩ := hw10
      have b13 := hq_rng r11
      have b14 : r11.toInt = (hp_sl.getD i 0 : Nat) := by rw [hr12]; exact hs_ofn (by have h9 := (hs_all i h_i).1; omega)
      refine lv_icmp_ge (tgt := 75) hx hb dX13_is_37 (by decide) (fun c15 => ?_) (fun c15 => ?_)
      · have c15 : (r11).toInt ≤ (k).toInt := hq_lei.mp c15
        refine lv_iload_n hx hb dX13_is_75 rfl (lv_at hl 1 rfl) ?_
        have fx16 : V9 (m) = some (.inr (13, hm_o q (m_tp) (m_sz) (m_fr) (m_bh) (m_hd) (m_ft) (m_fa) (m_le) (m_fo) (m_as) (m_fd) (m_bc) (m_bg) (m_bs) (m_be) (m_b0) (m_b1) (m_cm) (m_hc))) := (hP_32.2 (m) _ h_m rfl).trans (ho_m)
        exact hp_zret hx hb hr (hq_nzi (by omega) (by omega)) hlocks hZ ⟨rfl, hP, fx16, (by omega)⟩ dX13_is_76
      · have c15 : ¬ (r11).toInt ≤ (k).toInt := fun h9 => c15 (hq_lei.mpr h9)
        refine lv_iload_n hx hb dX13_is_40 rfl (lv_at hl 1 rfl) ?_
        refine lv_if_eq (tgt := 75) hx hb dX13_is_41 (by decide) (fun c17 => ?_) (fun c17 => ?_)
        · have c17 : (iz).toInt = (0 : Int) := hq_eqi.mp c17
          refine lv_iload_n hx hb dX13_is_75 rfl (lv_at hl 1 rfl) ?_
          have fx18 : V9 (m) = some (.inr (13, hm_o q (m_tp) (m_sz) (m_fr) (m_bh) (m_hd) (m_ft) (m_fa) (m_le) (m_fo) (m_as) (m_fd) (m_bc) (m_bg) (m_bs) (m_be) (m_b0) (m_b1) (m_cm) (m_hc))) := (hP_32.2 (m) _ h_m rfl).trans (ho_m)
          exact hp_zret hx hb hr (hq_nzi (by omega) (by omega)) hlocks hZ ⟨rfl, hP, fx18, (by omega)⟩ dX13_is_76
        · have c17 : ¬ (iz).toInt = (0 : Int) := fun h9 => c17 (hq_eqi.mpr h9)
          refine lv_aload_n hx hb dX13_is_44 rfl (lv_at hl 2 rfl) ?_
          have fx19 : V9 (m) = some (.inr (13, hm_o q (m_tp) (m_sz) (m_fr) (m_bh) (m_hd) (m_ft) (m_fa) (m_le) (m_fo) (m_as) (m_fd) (m_bc) (m_bg) (m_bs) (m_be) (m_b0) (m_b1) (m_cm) (m_hc))) := (hP_32.2 (m) _ h_m rfl).trans (ho_m)
          refine hp_get (v := .ref (q + 20)) hx hb hts hown hZ fx19 fl_X13_73 rfl dX13_is_45 ?_
          refine lv_aload_n hx hb dX13_is_48 rfl (lv_at hl 2 rfl) ?_
          refine hp_get (v := .int (m_fr)) hx hb hts hown hZ fx19 fl_X13_60 rfl dX13_is_49 ?_
          refine lv_iload_n hx hb dX13_is_52 rfl (lv_at hl 0 rfl) ?_
          refine lv_iadd hx hb dX13_is_53 ?_
          refine lv_topi (fun y20 ey21 => ?_)
          obtain ⟨k22, hk23, b24, b25⟩ := hq_add (m_fr) (k)
          rw [← ey21] at hk23 b24 b25
          have hk23 : (y20).toInt = (m_fr).toInt + (k).toInt + k22 * 4294967296 := hk23
          obtain rfl : k22 = 0 := by omega
          obtain ⟨hN28, g27, eV26⟩ := hq_o20 hP.1 (hr_20 hR)
          refine hp_bald hx hb hZ eV26 (hq_in (by omega) (by omega)) dX13_is_54 ?_
          refine lv_topi (fun y30 ey31 => ?_)
          have b32 := hq_rng y30
          refine lv_aload_n hx hb dX13_is_55 rfl (lv_at hl 3 rfl) ?_
          refine lv_iload_n hx hb dX13_is_56 rfl (lv_at hl 0 rfl) ?_
          refine hp_calli (hp_runVS (As := [.int (k)]) (rest := [.int (y30)]) hx hb hml hown hts (s_charAt l D cs B V9 n i h_i (k) (by omega) (by omega)) hZ h_i rfl cv_X13_99 rfl rfl ⟨Nat.le_of_ble_eq_true rfl, Nat.le_of_ble_eq_true rfl⟩ rfl hl.1 rfl (Nat.le_of_ble_eq_true rfl) dX13_is_57 ⟨Nat.le_of_ble_eq_true rfl, Nat.le_of_ble_eq_true rfl⟩) hZ (fun r36 V33 n34 _ _ hw35 hZ => ?_)
          obtain ⟨rfl, rfl, hr37⟩ := hw35
          have b38 := hq_rng r36
          refine lv_icmp_ne (tgt := 67) hx hb dX13_is_60 (by decide) (fun c39 => ?_) (fun c39 => ?_)
          · have c39 : ¬ (y30).toInt = (r36).toInt := fun h9 => c39 (hq_eqi.mpr h9)
            refine lv_iconst (v := 0) hx hb dX13_is_67 (by decide) ?_
            refine lv_istore_n (lv' := [(2, .int (0)), (3, .int (k)), (0, .ref (m)), (1, .ref (cs (100 + i)))]) hx hb dX13_is_68 rfl hl (by decide) rfl (fun ls hl => ?_)
            obtain ⟨y40, ey41⟩ : ∃ y : Int32, y = k + (1) := ⟨_, rfl⟩
            obtain ⟨k42, hk43, b44, b45⟩ := hq_add (k) (1)
            rw [← ey41] at hk43 b44 b45
            have hk43 : (y40).toInt = (k).toInt + (1) + k42 * 4294967296 := hk43
            refine lv_iinc (v := y40) (lv' := [(3, .int (y40)), (2, .int (0)), (0, .ref (m)), (1, .ref (cs (100 + i)))]) hx hb dX13_is_69 hl (k := 1) rfl (by rw [ey41]; rfl) (by decide) rfl (fun ls hl => ?_)
            refine lv_goto (tgt := 32) hx hb dX13_is_72 (by decide) ?_
            exact ih32 _ (by omega) _ _ _ ls (0) (y40) rfl hZ hP (by omega) (by omega) (by omega) (lv_sub hl [0, 1, 2, 3] rfl)
          · have c39 : (y30).toInt = (r36).toInt := hq_eqi.mp c39
            refine lv_iconst (v := 1) hx hb dX13_is_63 (by decide) ?_
            refine lv_goto (tgt := 68) hx hb dX13_is_64 (by decide) ?_
            refine lv_istore_n (lv' := [(2, .int (1)), (3, .int (k)), (0, .ref (m)), (1, .ref (cs (100 + i)))]) hx hb dX13_is_68 rfl hl (by decide) rfl (fun ls hl => ?_)
            obtain ⟨y46, ey47⟩ : ∃ y : Int32, y = k + (1) := ⟨_, rfl⟩
            obtain ⟨k48, hk49, b50, b51⟩ := hq_add (k) (1)
            rw [← ey47] at hk49 b50 b51
            have hk49 : (y46).toInt = (k).toInt + (1) + k48 * 4294967296 := hk49
            refine lv_iinc (v := y46) (lv' := [(3, .int (y46)), (2, .int (1)), (0, .ref (m)), (1, .ref (cs (100 + i)))]) hx hb dX13_is_69 hl (k := 1) rfl (by rw [ey47]; rfl) (by decide) rfl (fun ls hl => ?_)
            refine lv_goto (tgt := 32) hx hb dX13_is_72 (by decide) ?_
            exact ih32 _ (by omega) _ _ _ ls (1) (y46) rfl hZ hP (by omega) (by omega) (by omega) (lv_sub hl [0, 1, 2, 3] rfl)
  ·
    refine lv_aload_n hx hb dX13_is_0 rfl (lv_at hl 0 rfl) ?_
    refine hp_get (v := .int (m_hd)) hx hb hts hown hZ ho_m fl_X13_83 rfl dX13_is_1 ?_
    refine lv_iconst (v := 1) hx hb dX13_is_4 (by decide) ?_
    refine lv_icmp_ne (tgt := 28) hx hb dX13_is_5 (by decide) (fun c52 => ?_) (fun c52 => ?_)
    · have c52 : ¬ (m_hd).toInt = (1 : Int) := fun h9 => c52 (hq_eqi.mpr h9)
      refine lv_iconst (v := 0) hx hb dX13_is_28 (by decide) ?_
      exact jn29 _ (by first | decide | (have h0 : (0 : Int32).toInt = 0 := rfl; have h1 : (1 : Int32).toInt = 1 := rfl; show _; omega))
    · have c52 : (m_hd).toInt = (1 : Int) := hq_eqi.mp c52
      refine lv_aload_n hx hb dX13_is_8 rfl (lv_at hl 0 rfl) ?_
      refine hp_get (v := .int (m_bh)) hx hb hts hown hZ ho_m fl_X13_76 rfl dX13_is_9 ?_
      refine lv_aload_n hx hb dX13_is_12 rfl (lv_at hl 0 rfl) ?_
      refine hp_get (v := .int (m_fr)) hx hb hts hown hZ ho_m fl_X13_60 rfl dX13_is_13 ?_
      refine lv_isub hx hb dX13_is_16 ?_
      refine lv_topi (fun y53 ey54 => ?_)
      obtain ⟨k55, hk56, b57, b58⟩ := hq_sub (m_bh) (m_fr)
      rw [← ey54] at hk56 b57 b58
      have hk56 : (y53).toInt = (m_bh).toInt - (m_fr).toInt + k55 * 4294967296 := hk56
      obtain rfl : k55 = 0 := by omega
      refine lv_aload_n hx hb dX13_is_17 rfl (lv_at hl 1 rfl) ?_
      refine hp_calli (hp_runVS (As := []) (rest := [.int (y53)]) hx hb hml hown hts (s_length l D cs B V n i h_i) hZ h_i rfl cv_X13_93 rfl rfl ⟨Nat.le_of_ble_eq_true rfl, Nat.le_of_ble_eq_true rfl⟩ rfl hl.1 rfl (Nat.le_of_ble_eq_true rfl) dX13_is_18 ⟨Nat.le_of_ble_eq_true rfl, Nat.le_of_ble_eq_true rfl⟩) hZ (fun r62 V59 n60 _ _ hw61 hZ => ?_)
      obtain ⟨rfl, rfl, hr63⟩ := hw61
      have b64 := hq_rng r62
      have b65 : r62.toInt = (hp_sl.getD i 0 : Nat) := by rw [hr63]; exact hs_ofn (by have h9 := (hs_all i h_i).1; omega)
      refine lv_icmp_ne (tgt := 28) hx hb dX13_is_21 (by decide) (fun c66 => ?_) (fun c66 => ?_)
      · have c66 : ¬ (y53).toInt = (r62).toInt := fun h9 => c66 (hq_eqi.mpr h9)
        refine lv_iconst (v := 0) hx hb dX13_is_28 (by decide) ?_
        exact jn29 _ (by first | decide | (have h0 : (0 : Int32).toInt = 0 := rfl; have h1 : (1 : Int32).toInt = 1 := rfl; show _; omega))
      · have c66 : (y53).toInt = (r62).toInt := hq_eqi.mp c66
        refine lv_iconst (v := 1) hx hb dX13_is_24 (by decide) ?_
        refine lv_goto (tgt := 29) hx hb dX13_is_25 (by decide) ?_
        exact jn29 _ (by first | decide | (have h0 : (0 : Int32).toInt = 0 := rfl; have h1 : (1 : Int32).toInt = 1 := rfl; show _; omega))

set_option maxHeartbeats 4000000 in
set_option maxRecDepth 100000 in
theorem t_X13_isKeyword (l : Launch) (D : va_G) (cs : Nat → ClassId) (B : Nat) (G : hq_G) (V : hp_V) (n : Nat) (hI : hq_I cs G V) (q : Nat) (hR : hq_RT G q) (m : Nat) (h_m : G m = some (24, 0, 0, 0)) {m_tp m_sz m_fr m_bh m_hd m_ft m_fa m_le m_fo m_as m_fd m_bc m_bg m_bs m_be m_b0 m_b1 m_cm m_hc : Int32} (ho_m : V m = some (.inr (13, hm_o q (m_tp) (m_sz) (m_fr) (m_bh) (m_hd) (m_ft) (m_fa) (m_le) (m_fo) (m_as) (m_fd) (m_bc) (m_bg) (m_bs) (m_be) (m_b0) (m_b1) (m_cm) (m_hc)))) (hi_m0 : 0 ≤ m_tp.toInt ∧ m_tp.toInt ≤ 4000) (hi_m1 : 0 ≤ m_sz.toInt ∧ m_sz.toInt ≤ 4000) (hi_m2 : 0 ≤ m_le.toInt ∧ m_le.toInt ≤ 276) (hi_m3 : 0 ≤ m_fo.toInt ∧ m_fo.toInt ≤ 4) (hi_m4 : 0 ≤ m_as.toInt ∧ m_as.toInt ≤ 4000) (hi_m5 : 0 ≤ m_fd.toInt ∧ m_fd.toInt ≤ 900) (hi_m6 : 0 ≤ m_cm.toInt ∧ m_cm.toInt ≤ 2) (hi_m7 : 0 ≤ m_hc.toInt ∧ m_hc.toInt ≤ 1) (hi_m8 : 0 ≤ m_fr.toInt ∧ m_fr.toInt ≤ m_sz.toInt) (hi_m9 : 0 ≤ m_bh.toInt ∧ m_bh.toInt ≤ m_sz.toInt + 1) (hi_m10 : m_bh.toInt ≤ m_sz.toInt ∨ m_hd.toInt = 5) (hi_m11 : ¬ m_hd.toInt = 1 ∨ (m_fr.toInt + 1 ≤ m_bh.toInt ∧ m_bh.toInt ≤ m_fr.toInt + 12)) (hi_m12 : ¬ m_hd.toInt = 3 ∨ (m_fr.toInt + 2 ≤ m_bh.toInt ∧ m_bh.toInt ≤ m_fr.toInt + 10)) (hi_m13 : ¬ m_hd.toInt = 2 ∨ m_bh.toInt = m_fr.toInt + 1) : hp_M l yX13_isKeyword cX13_isKeyword 2 (some .boolean) ({ frames := 6, cells := 0, slots := 0, locals := 129 }) D cs B V n [.ref (m)] (hp_QI D cs B (fun r V' n' => n = n' ∧ hq_P cs G (fun _ => false) V V' ∧ (V' m = some (.inr (13, hm_o q (m_tp) (m_sz) (m_fr) (m_bh) (m_hd) (m_ft) (m_fa) (m_le) (m_fo) (m_as) (m_fd) (m_bc) (m_bg) (m_bs) (m_be) (m_b0) (m_b1) (m_cm) (m_hc)))) ∧ (0 ≤ r.toInt ∧ r.toInt ≤ 1))) 0 0 := by
  refine hp_walk (R0 := RX13) (by decide) rfl ?_ (Nat.le_of_ble_eq_true rfl)
  intro p e s m below meth c ls hx hb hr hts hown hlocks hin hml hZ hl
  have hP : hq_P cs G (fun _ => false) V V := hq_P.rf hI
  have hl : lv_has ls 2 [(0, .ref (m))] := hl
  have hb_m_tp := hq_rng m_tp
  have hb_m_sz := hq_rng m_sz
  have hb_m_fr := hq_rng m_fr
  have hb_m_bh := hq_rng m_bh
  have hb_m_hd := hq_rng m_hd
  have hb_m_ft := hq_rng m_ft
  have hb_m_fa := hq_rng m_fa
  have hb_m_le := hq_rng m_le
  have hb_m_fo := hq_rng m_fo
  have hb_m_as := hq_rng m_as
  have hb_m_fd := hq_rng m_fd
  have hb_m_bc := hq_rng m_bc
  have hb_m_bg := hq_rng m_bg
  have hb_m_bs := hq_rng m_bs
  have hb_m_be := hq_rng m_be
  have hb_m_b0 := hq_rng m_b0
  have hb_m_b1 := hq_rng m_b1
  have hb_m_cm := hq_rng m_cm
  have hb_m_hc := hq_rng m_hc
  refine lv_aload_n hx hb dX13_isKeyword_0 rfl (lv_at hl 0 rfl) ?_
  refine va_ldcS (tx := (hp_so.getD 1 ("", 0, "")).2.2) (q := cs (100 + 1)) hx hb hown (hZ.2.2.2.2.2.2.2.2.2.2 1 (by decide)) dX13_isKeyword_1 ?_
  refine hp_calli (hp_runV (As := [.ref (cs (100 + 1))]) (rest := []) hx hb hml hown hts (t_X13_is l D cs B G  V n hP.1 q hR (m) h_m 1 (by decide) ho_m  (by omega) (by omega) (by omega) (by omega) (by omega) (by omega) (by omega) (by omega) (by omega) (by omega) (by omega) (by omega) (by omega) (by omega) ) hZ ho_m cv_X13_103 rfl rfl ⟨Nat.le_of_ble_eq_true rfl, Nat.le_of_ble_eq_true rfl⟩ rfl hl.1 rfl (Nat.le_of_ble_eq_true rfl) dX13_isKeyword_3 ⟨(Nat.le_of_ble_eq_true rfl), (Nat.le_of_ble_eq_true rfl)⟩) hZ (fun r4 V1 n2 _ _ hw3 hZ => ?_)
  obtain ⟨rfl, hq5, ho7, hr6⟩ := hw3
  have hP := hP.trans hq5 (fun _ _ => rfl)
  have b8 := hq_rng r4
  refine lv_if_ne (tgt := 81) hx hb dX13_isKeyword_6 (by decide) (fun c9 => ?_) (fun c9 => ?_)
  · have c9 : ¬ (r4).toInt = (0 : Int) := fun h9 => c9 (hq_eqi.mpr h9)
    refine lv_iconst (v := 1) hx hb dX13_isKeyword_81 (by decide) ?_
    refine lv_goto (tgt := 86) hx hb dX13_isKeyword_82 (by decide) ?_
    refine lv_istore_n (lv' := [(1, .int (1)), (0, .ref (m))]) hx hb dX13_isKeyword_86 rfl hl (by decide) rfl (fun ls hl => ?_)
    refine lv_iload_n hx hb dX13_isKeyword_87 rfl (lv_at hl 0 rfl) ?_
    refine lv_if_ne (tgt := 163) hx hb dX13_isKeyword_88 (by decide) (fun c10 => ?_) (fun c10 => absurd c10 (by decide))
    refine lv_iconst (v := 1) hx hb dX13_isKeyword_163 (by decide) ?_
    refine lv_goto (tgt := 168) hx hb dX13_isKeyword_164 (by decide) ?_
    exact hp_zret hx hb hr rfl hlocks hZ ⟨rfl, hP, ho7, (by decide)⟩ dX13_isKeyword_168
  · have c9 : (r4).toInt = (0 : Int) := hq_eqi.mp c9
    refine lv_aload_n hx hb dX13_isKeyword_9 rfl (lv_at hl 0 rfl) ?_
    refine va_ldcS (tx := (hp_so.getD 2 ("", 0, "")).2.2) (q := cs (100 + 2)) hx hb hown (hZ.2.2.2.2.2.2.2.2.2.2 2 (by decide)) dX13_isKeyword_10 ?_
    refine hp_calli (hp_runV (As := [.ref (cs (100 + 2))]) (rest := []) hx hb hml hown hts (t_X13_is l D cs B G  V1 n hP.1 q hR (m) h_m 2 (by decide) ho7  (by omega) (by omega) (by omega) (by omega) (by omega) (by omega) (by omega) (by omega) (by omega) (by omega) (by omega) (by omega) (by omega) (by omega) ) hZ ho7 cv_X13_103 rfl rfl ⟨Nat.le_of_ble_eq_true rfl, Nat.le_of_ble_eq_true rfl⟩ rfl hl.1 rfl (Nat.le_of_ble_eq_true rfl) dX13_isKeyword_12 ⟨(Nat.le_of_ble_eq_true rfl), (Nat.le_of_ble_eq_true rfl)⟩) hZ (fun r14 V11 n12 _ _ hw13 hZ => ?_)
    obtain ⟨rfl, hq15, ho17, hr16⟩ := hw13
    have hP := hP.trans hq15 (fun _ _ => rfl)
    have b18 := hq_rng r14
    refine lv_if_ne (tgt := 81) hx hb dX13_isKeyword_15 (by decide) (fun c19 => ?_) (fun c19 => ?_)
    · have c19 : ¬ (r14).toInt = (0 : Int) := fun h9 => c19 (hq_eqi.mpr h9)
      refine lv_iconst (v := 1) hx hb dX13_isKeyword_81 (by decide) ?_
      refine lv_goto (tgt := 86) hx hb dX13_isKeyword_82 (by decide) ?_
      refine lv_istore_n (lv' := [(1, .int (1)), (0, .ref (m))]) hx hb dX13_isKeyword_86 rfl hl (by decide) rfl (fun ls hl => ?_)
      refine lv_iload_n hx hb dX13_isKeyword_87 rfl (lv_at hl 0 rfl) ?_
      refine lv_if_ne (tgt := 163) hx hb dX13_isKeyword_88 (by decide) (fun c20 => ?_) (fun c20 => absurd c20 (by decide))
      refine lv_iconst (v := 1) hx hb dX13_isKeyword_163 (by decide) ?_
      refine lv_goto (tgt := 168) hx hb dX13_isKeyword_164 (by decide) ?_
      exact hp_zret hx hb hr rfl hlocks hZ ⟨rfl, hP, ho17, (by decide)⟩ dX13_isKeyword_168
    · have c19 : (r14).toInt = (0 : Int) := hq_eqi.mp c19
      refine lv_aload_n hx hb dX13_isKeyword_18 rfl (lv_at hl 0 rfl) ?_
      refine va_ldcS (tx := (hp_so.getD 3 ("", 0, "")).2.2) (q := cs (100 + 3)) hx hb hown (hZ.2.2.2.2.2.2.2.2.2.2 3 (by decide)) dX13_isKeyword_19 ?_
      refine hp_calli (hp_runV (As := [.ref (cs (100 + 3))]) (rest := []) hx hb hml hown hts (t_X13_is l D cs B G  V11 n hP.1 q hR (m) h_m 3 (by decide) ho17  (by omega) (by omega) (by omega) (by omega) (by omega) (by omega) (by omega) (by omega) (by omega) (by omega) (by omega) (by omega) (by omega) (by omega) ) hZ ho17 cv_X13_103 rfl rfl ⟨Nat.le_of_ble_eq_true rfl, Nat.le_of_ble_eq_true rfl⟩ rfl hl.1 rfl (Nat.le_of_ble_eq_true rfl) dX13_isKeyword_21 ⟨(Nat.le_of_ble_eq_true rfl), (Nat.le_of_ble_eq_true rfl)⟩) hZ (fun r24 V21 n22 _ _ hw23 hZ => ?_)
      obtain ⟨rfl, hq25, ho27, hr26⟩ := hw23
      have hP := hP.trans hq25 (fun _ _ => rfl)
      have b28 := hq_rng r24
      refine lv_if_ne (tgt := 81) hx hb dX13_isKeyword_24 (by decide) (fun c29 => ?_) (fun c29 => ?_)
      · have c29 : ¬ (r24).toInt = (0 : Int) := fun h9 => c29 (hq_eqi.mpr h9)
        refine lv_iconst (v := 1) hx hb dX13_isKeyword_81 (by decide) ?_
        refine lv_goto (tgt := 86) hx hb dX13_isKeyword_82 (by decide) ?_
        refine lv_istore_n (lv' := [(1, .int (1)), (0, .ref (m))]) hx hb dX13_isKeyword_86 rfl hl (by decide) rfl (fun ls hl => ?_)
        refine lv_iload_n hx hb dX13_isKeyword_87 rfl (lv_at hl 0 rfl) ?_
        refine lv_if_ne (tgt := 163) hx hb dX13_isKeyword_88 (by decide) (fun c30 => ?_) (fun c30 => absurd c30 (by decide))
        refine lv_iconst (v := 1) hx hb dX13_isKeyword_163 (by decide) ?_
        refine lv_goto (tgt := 168) hx hb dX13_isKeyword_164 (by decide) ?_
        exact hp_zret hx hb hr rfl hlocks hZ ⟨rfl, hP, ho27, (by decide)⟩ dX13_isKeyword_168
      · have c29 : (r24).toInt = (0 : Int) := hq_eqi.mp c29
        refine lv_aload_n hx hb dX13_isKeyword_27 rfl (lv_at hl 0 rfl) ?_
        refine va_ldcS (tx := (hp_so.getD 4 ("", 0, "")).2.2) (q := cs (100 + 4)) hx hb hown (hZ.2.2.2.2.2.2.2.2.2.2 4 (by decide)) dX13_isKeyword_28 ?_
        refine hp_calli (hp_runV (As := [.ref (cs (100 + 4))]) (rest := []) hx hb hml hown hts (t_X13_is l D cs B G  V21 n hP.1 q hR (m) h_m 4 (by decide) ho27  (by omega) (by omega) (by omega) (by omega) (by omega) (by omega) (by omega) (by omega) (by omega) (by omega) (by omega) (by omega) (by omega) (by omega) ) hZ ho27 cv_X13_103 rfl rfl ⟨Nat.le_of_ble_eq_true rfl, Nat.le_of_ble_eq_true rfl⟩ rfl hl.1 rfl (Nat.le_of_ble_eq_true rfl) dX13_isKeyword_30 ⟨(Nat.le_of_ble_eq_true rfl), (Nat.le_of_ble_eq_true rfl)⟩) hZ (fun r34 V31 n32 _ _ hw33 hZ => ?_)
        obtain ⟨rfl, hq35, ho37, hr36⟩ := hw33
        have hP := hP.trans hq35 (fun _ _ => rfl)
        have b38 := hq_rng r34
        refine lv_if_ne (tgt := 81) hx hb dX13_isKeyword_33 (by decide) (fun c39 => ?_) (fun c39 => ?_)
        · have c39 : ¬ (r34).toInt = (0 : Int) := fun h9 => c39 (hq_eqi.mpr h9)
          refine lv_iconst (v := 1) hx hb dX13_isKeyword_81 (by decide) ?_
          refine lv_goto (tgt := 86) hx hb dX13_isKeyword_82 (by decide) ?_
          refine lv_istore_n (lv' := [(1, .int (1)), (0, .ref (m))]) hx hb dX13_isKeyword_86 rfl hl (by decide) rfl (fun ls hl => ?_)
          refine lv_iload_n hx hb dX13_isKeyword_87 rfl (lv_at hl 0 rfl) ?_
          refine lv_if_ne (tgt := 163) hx hb dX13_isKeyword_88 (by decide) (fun c40 => ?_) (fun c40 => absurd c40 (by decide))
          refine lv_iconst (v := 1) hx hb dX13_isKeyword_163 (by decide) ?_
          refine lv_goto (tgt := 168) hx hb dX13_isKeyword_164 (by decide) ?_
          exact hp_zret hx hb hr rfl hlocks hZ ⟨rfl, hP, ho37, (by decide)⟩ dX13_isKeyword_168
        · have c39 : (r34).toInt = (0 : Int) := hq_eqi.mp c39
          refine lv_aload_n hx hb dX13_isKeyword_36 rfl (lv_at hl 0 rfl) ?_
          refine va_ldcS (tx := (hp_so.getD 5 ("", 0, "")).2.2) (q := cs (100 + 5)) hx hb hown (hZ.2.2.2.2.2.2.2.2.2.2 5 (by decide)) dX13_isKeyword_37 ?_
          refine hp_calli (hp_runV (As := [.ref (cs (100 + 5))]) (rest := []) hx hb hml hown hts (t_X13_is l D cs B G  V31 n hP.1 q hR (m) h_m 5 (by decide) ho37  (by omega) (by omega) (by omega) (by omega) (by omega) (by omega) (by omega) (by omega) (by omega) (by omega) (by omega) (by omega) (by omega) (by omega) ) hZ ho37 cv_X13_103 rfl rfl ⟨Nat.le_of_ble_eq_true rfl, Nat.le_of_ble_eq_true rfl⟩ rfl hl.1 rfl (Nat.le_of_ble_eq_true rfl) dX13_isKeyword_39 ⟨(Nat.le_of_ble_eq_true rfl), (Nat.le_of_ble_eq_true rfl)⟩) hZ (fun r44 V41 n42 _ _ hw43 hZ => ?_)
          obtain ⟨rfl, hq45, ho47, hr46⟩ := hw43
          have hP := hP.trans hq45 (fun _ _ => rfl)
          have b48 := hq_rng r44
          refine lv_if_ne (tgt := 81) hx hb dX13_isKeyword_42 (by decide) (fun c49 => ?_) (fun c49 => ?_)
          · have c49 : ¬ (r44).toInt = (0 : Int) := fun h9 => c49 (hq_eqi.mpr h9)
            refine lv_iconst (v := 1) hx hb dX13_isKeyword_81 (by decide) ?_
            refine lv_goto (tgt := 86) hx hb dX13_isKeyword_82 (by decide) ?_
            refine lv_istore_n (lv' := [(1, .int (1)), (0, .ref (m))]) hx hb dX13_isKeyword_86 rfl hl (by decide) rfl (fun ls hl => ?_)
            refine lv_iload_n hx hb dX13_isKeyword_87 rfl (lv_at hl 0 rfl) ?_
            refine lv_if_ne (tgt := 163) hx hb dX13_isKeyword_88 (by decide) (fun c50 => ?_) (fun c50 => absurd c50 (by decide))
            refine lv_iconst (v := 1) hx hb dX13_isKeyword_163 (by decide) ?_
            refine lv_goto (tgt := 168) hx hb dX13_isKeyword_164 (by decide) ?_
            exact hp_zret hx hb hr rfl hlocks hZ ⟨rfl, hP, ho47, (by decide)⟩ dX13_isKeyword_168
          · have c49 : (r44).toInt = (0 : Int) := hq_eqi.mp c49
            refine lv_aload_n hx hb dX13_isKeyword_45 rfl (lv_at hl 0 rfl) ?_
            refine va_ldcS (tx := (hp_so.getD 6 ("", 0, "")).2.2) (q := cs (100 + 6)) hx hb hown (hZ.2.2.2.2.2.2.2.2.2.2 6 (by decide)) dX13_isKeyword_46 ?_
            refine hp_calli (hp_runV (As := [.ref (cs (100 + 6))]) (rest := []) hx hb hml hown hts (t_X13_is l D cs B G  V41 n hP.1 q hR (m) h_m 6 (by decide) ho47  (by omega) (by omega) (by omega) (by omega) (by omega) (by omega) (by omega) (by omega) (by omega) (by omega) (by omega) (by omega) (by omega) (by omega) ) hZ ho47 cv_X13_103 rfl rfl ⟨Nat.le_of_ble_eq_true rfl, Nat.le_of_ble_eq_true rfl⟩ rfl hl.1 rfl (Nat.le_of_ble_eq_true rfl) dX13_isKeyword_48 ⟨(Nat.le_of_ble_eq_true rfl), (Nat.le_of_ble_eq_true rfl)⟩) hZ (fun r54 V51 n52 _ _ hw53 hZ => ?_)
            obtain ⟨rfl, hq55, ho57, hr56⟩ := hw53
            have hP := hP.trans hq55 (fun _ _ => rfl)
            have b58 := hq_rng r54
            refine lv_if_ne (tgt := 81) hx hb dX13_isKeyword_51 (by decide) (fun c59 => ?_) (fun c59 => ?_)
            · have c59 : ¬ (r54).toInt = (0 : Int) := fun h9 => c59 (hq_eqi.mpr h9)
              refine lv_iconst (v := 1) hx hb dX13_isKeyword_81 (by decide) ?_
              refine lv_goto (tgt := 86) hx hb dX13_isKeyword_82 (by decide) ?_
              refine lv_istore_n (lv' := [(1, .int (1)), (0, .ref (m))]) hx hb dX13_isKeyword_86 rfl hl (by decide) rfl (fun ls hl => ?_)
              refine lv_iload_n hx hb dX13_isKeyword_87 rfl (lv_at hl 0 rfl) ?_
              refine lv_if_ne (tgt := 163) hx hb dX13_isKeyword_88 (by decide) (fun c60 => ?_) (fun c60 => absurd c60 (by decide))
              refine lv_iconst (v := 1) hx hb dX13_isKeyword_163 (by decide) ?_
              refine lv_goto (tgt := 168) hx hb dX13_isKeyword_164 (by decide) ?_
              exact hp_zret hx hb hr rfl hlocks hZ ⟨rfl, hP, ho57, (by decide)⟩ dX13_isKeyword_168
            · have c59 : (r54).toInt = (0 : Int) := hq_eqi.mp c59
              refine lv_aload_n hx hb dX13_isKeyword_54 rfl (lv_at hl 0 rfl) ?_
              refine va_ldcS (tx := (hp_so.getD 7 ("", 0, "")).2.2) (q := cs (100 + 7)) hx hb hown (hZ.2.2.2.2.2.2.2.2.2.2 7 (by decide)) dX13_isKeyword_55 ?_
              refine hp_calli (hp_runV (As := [.ref (cs (100 + 7))]) (rest := []) hx hb hml hown hts (t_X13_is l D cs B G  V51 n hP.1 q hR (m) h_m 7 (by decide) ho57  (by omega) (by omega) (by omega) (by omega) (by omega) (by omega) (by omega) (by omega) (by omega) (by omega) (by omega) (by omega) (by omega) (by omega) ) hZ ho57 cv_X13_103 rfl rfl ⟨Nat.le_of_ble_eq_true rfl, Nat.le_of_ble_eq_true rfl⟩ rfl hl.1 rfl (Nat.le_of_ble_eq_true rfl) dX13_isKeyword_57 ⟨(Nat.le_of_ble_eq_true rfl), (Nat.le_of_ble_eq_true rfl)⟩) hZ (fun r64 V61 n62 _ _ hw63 hZ => ?_)
              obtain ⟨rfl, hq65, ho67, hr66⟩ := hw63
              have hP := hP.trans hq65 (fun _ _ => rfl)
              have b68 := hq_rng r64
              refine lv_if_ne (tgt := 81) hx hb dX13_isKeyword_60 (by decide) (fun c69 => ?_) (fun c69 => ?_)
              · have c69 : ¬ (r64).toInt = (0 : Int) := fun h9 => c69 (hq_eqi.mpr h9)
                refine lv_iconst (v := 1) hx hb dX13_isKeyword_81 (by decide) ?_
                refine lv_goto (tgt := 86) hx hb dX13_isKeyword_82 (by decide) ?_
                refine lv_istore_n (lv' := [(1, .int (1)), (0, .ref (m))]) hx hb dX13_isKeyword_86 rfl hl (by decide) rfl (fun ls hl => ?_)
                refine lv_iload_n hx hb dX13_isKeyword_87 rfl (lv_at hl 0 rfl) ?_
                refine lv_if_ne (tgt := 163) hx hb dX13_isKeyword_88 (by decide) (fun c70 => ?_) (fun c70 => absurd c70 (by decide))
                refine lv_iconst (v := 1) hx hb dX13_isKeyword_163 (by decide) ?_
                refine lv_goto (tgt := 168) hx hb dX13_isKeyword_164 (by decide) ?_
                exact hp_zret hx hb hr rfl hlocks hZ ⟨rfl, hP, ho67, (by decide)⟩ dX13_isKeyword_168
              · have c69 : (r64).toInt = (0 : Int) := hq_eqi.mp c69
                refine lv_aload_n hx hb dX13_isKeyword_63 rfl (lv_at hl 0 rfl) ?_
                refine va_ldcS (tx := (hp_so.getD 8 ("", 0, "")).2.2) (q := cs (100 + 8)) hx hb hown (hZ.2.2.2.2.2.2.2.2.2.2 8 (by decide)) dX13_isKeyword_64 ?_
                refine hp_calli (hp_runV (As := [.ref (cs (100 + 8))]) (rest := []) hx hb hml hown hts (t_X13_is l D cs B G  V61 n hP.1 q hR (m) h_m 8 (by decide) ho67  (by omega) (by omega) (by omega) (by omega) (by omega) (by omega) (by omega) (by omega) (by omega) (by omega) (by omega) (by omega) (by omega) (by omega) ) hZ ho67 cv_X13_103 rfl rfl ⟨Nat.le_of_ble_eq_true rfl, Nat.le_of_ble_eq_true rfl⟩ rfl hl.1 rfl (Nat.le_of_ble_eq_true rfl) dX13_isKeyword_66 ⟨(Nat.le_of_ble_eq_true rfl), (Nat.le_of_ble_eq_true rfl)⟩) hZ (fun r74 V71 n72 _ _ hw73 hZ => ?_)
                obtain ⟨rfl, hq75, ho77, hr76⟩ := hw73
                have hP := hP.trans hq75 (fun _ _ => rfl)
                have b78 := hq_rng r74
                refine lv_if_ne (tgt := 81) hx hb dX13_isKeyword_69 (by decide) (fun c79 => ?_) (fun c79 => ?_)
                · have c79 : ¬ (r74).toInt = (0 : Int) := fun h9 => c79 (hq_eqi.mpr h9)
                  refine lv_iconst (v := 1) hx hb dX13_isKeyword_81 (by decide) ?_
                  refine lv_goto (tgt := 86) hx hb dX13_isKeyword_82 (by decide) ?_
                  refine lv_istore_n (lv' := [(1, .int (1)), (0, .ref (m))]) hx hb dX13_isKeyword_86 rfl hl (by decide) rfl (fun ls hl => ?_)
                  refine lv_iload_n hx hb dX13_isKeyword_87 rfl (lv_at hl 0 rfl) ?_
                  refine lv_if_ne (tgt := 163) hx hb dX13_isKeyword_88 (by decide) (fun c80 => ?_) (fun c80 => absurd c80 (by decide))
                  refine lv_iconst (v := 1) hx hb dX13_isKeyword_163 (by decide) ?_
                  refine lv_goto (tgt := 168) hx hb dX13_isKeyword_164 (by decide) ?_
                  exact hp_zret hx hb hr rfl hlocks hZ ⟨rfl, hP, ho77, (by decide)⟩ dX13_isKeyword_168
                · have c79 : (r74).toInt = (0 : Int) := hq_eqi.mp c79
                  refine lv_aload_n hx hb dX13_isKeyword_72 rfl (lv_at hl 0 rfl) ?_
                  refine va_ldcS (tx := (hp_so.getD 9 ("", 0, "")).2.2) (q := cs (100 + 9)) hx hb hown (hZ.2.2.2.2.2.2.2.2.2.2 9 (by decide)) dX13_isKeyword_73 ?_
                  refine hp_calli (hp_runV (As := [.ref (cs (100 + 9))]) (rest := []) hx hb hml hown hts (t_X13_is l D cs B G  V71 n hP.1 q hR (m) h_m 9 (by decide) ho77  (by omega) (by omega) (by omega) (by omega) (by omega) (by omega) (by omega) (by omega) (by omega) (by omega) (by omega) (by omega) (by omega) (by omega) ) hZ ho77 cv_X13_103 rfl rfl ⟨Nat.le_of_ble_eq_true rfl, Nat.le_of_ble_eq_true rfl⟩ rfl hl.1 rfl (Nat.le_of_ble_eq_true rfl) dX13_isKeyword_75 ⟨(Nat.le_of_ble_eq_true rfl), (Nat.le_of_ble_eq_true rfl)⟩) hZ (fun r84 V81 n82 _ _ hw83 hZ => ?_)
                  obtain ⟨rfl, hq85, ho87, hr86⟩ := hw83
                  have hP := hP.trans hq85 (fun _ _ => rfl)
                  have b88 := hq_rng r84
                  refine lv_if_eq (tgt := 85) hx hb dX13_isKeyword_78 (by decide) (fun c89 => ?_) (fun c89 => ?_)
                  · have c89 : (r84).toInt = (0 : Int) := hq_eqi.mp c89
                    refine lv_iconst (v := 0) hx hb dX13_isKeyword_85 (by decide) ?_
                    refine lv_istore_n (lv' := [(1, .int (0)), (0, .ref (m))]) hx hb dX13_isKeyword_86 rfl hl (by decide) rfl (fun ls hl => ?_)
                    refine lv_iload_n hx hb dX13_isKeyword_87 rfl (lv_at hl 0 rfl) ?_
                    refine lv_if_ne (tgt := 163) hx hb dX13_isKeyword_88 (by decide) (fun c90 => absurd (by decide) c90) (fun c90 => ?_)
                    refine lv_aload_n hx hb dX13_isKeyword_91 rfl (lv_at hl 1 rfl) ?_
                    refine va_ldcS (tx := (hp_so.getD 10 ("", 0, "")).2.2) (q := cs (100 + 10)) hx hb hown (hZ.2.2.2.2.2.2.2.2.2.2 10 (by decide)) dX13_isKeyword_92 ?_
                    refine hp_calli (hp_runV (As := [.ref (cs (100 + 10))]) (rest := []) hx hb hml hown hts (t_X13_is l D cs B G  V81 n hP.1 q hR (m) h_m 10 (by decide) ho87  (by omega) (by omega) (by omega) (by omega) (by omega) (by omega) (by omega) (by omega) (by omega) (by omega) (by omega) (by omega) (by omega) (by omega) ) hZ ho87 cv_X13_103 rfl rfl ⟨Nat.le_of_ble_eq_true rfl, Nat.le_of_ble_eq_true rfl⟩ rfl hl.1 rfl (Nat.le_of_ble_eq_true rfl) dX13_isKeyword_94 ⟨(Nat.le_of_ble_eq_true rfl), (Nat.le_of_ble_eq_true rfl)⟩) hZ (fun r94 V91 n92 _ _ hw93 hZ => ?_)
                    obtain ⟨rfl, hq95, ho97, hr96⟩ := hw93
                    have hP := hP.trans hq95 (fun _ _ => rfl)
                    have b98 := hq_rng r94
                    refine lv_if_ne (tgt := 163) hx hb dX13_isKeyword_97 (by decide) (fun c99 => ?_) (fun c99 => ?_)
                    · have c99 : ¬ (r94).toInt = (0 : Int) := fun h9 => c99 (hq_eqi.mpr h9)
                      refine lv_iconst (v := 1) hx hb dX13_isKeyword_163 (by decide) ?_
                      refine lv_goto (tgt := 168) hx hb dX13_isKeyword_164 (by decide) ?_
                      exact hp_zret hx hb hr rfl hlocks hZ ⟨rfl, hP, ho97, (by decide)⟩ dX13_isKeyword_168
                    · have c99 : (r94).toInt = (0 : Int) := hq_eqi.mp c99
                      refine lv_aload_n hx hb dX13_isKeyword_100 rfl (lv_at hl 1 rfl) ?_
                      refine va_ldcS (tx := (hp_so.getD 11 ("", 0, "")).2.2) (q := cs (100 + 11)) hx hb hown (hZ.2.2.2.2.2.2.2.2.2.2 11 (by decide)) dX13_isKeyword_101 ?_
                      refine hp_calli (hp_runV (As := [.ref (cs (100 + 11))]) (rest := []) hx hb hml hown hts (t_X13_is l D cs B G  V91 n hP.1 q hR (m) h_m 11 (by decide) ho97  (by omega) (by omega) (by omega) (by omega) (by omega) (by omega) (by omega) (by omega) (by omega) (by omega) (by omega) (by omega) (by omega) (by omega) ) hZ ho97 cv_X13_103 rfl rfl ⟨Nat.le_of_ble_eq_true rfl, Nat.le_of_ble_eq_true rfl⟩ rfl hl.1 rfl (Nat.le_of_ble_eq_true rfl) dX13_isKeyword_103 ⟨(Nat.le_of_ble_eq_true rfl), (Nat.le_of_ble_eq_true rfl)⟩) hZ (fun r103 V100 n101 _ _ hw102 hZ => ?_)
                      obtain ⟨rfl, hq104, ho106, hr105⟩ := hw102
                      have hP := hP.trans hq104 (fun _ _ => rfl)
                      have b107 := hq_rng r103
                      refine lv_if_ne (tgt := 163) hx hb dX13_isKeyword_106 (by decide) (fun c108 => ?_) (fun c108 => ?_)
                      · have c108 : ¬ (r103).toInt = (0 : Int) := fun h9 => c108 (hq_eqi.mpr h9)
                        refine lv_iconst (v := 1) hx hb dX13_isKeyword_163 (by decide) ?_
                        refine lv_goto (tgt := 168) hx hb dX13_isKeyword_164 (by decide) ?_
                        exact hp_zret hx hb hr rfl hlocks hZ ⟨rfl, hP, ho106, (by decide)⟩ dX13_isKeyword_168
                      · have c108 : (r103).toInt = (0 : Int) := hq_eqi.mp c108
                        refine lv_aload_n hx hb dX13_isKeyword_109 rfl (lv_at hl 1 rfl) ?_
                        refine va_ldcS (tx := (hp_so.getD 12 ("", 0, "")).2.2) (q := cs (100 + 12)) hx hb hown (hZ.2.2.2.2.2.2.2.2.2.2 12 (by decide)) dX13_isKeyword_110 ?_
                        refine hp_calli (hp_runV (As := [.ref (cs (100 + 12))]) (rest := []) hx hb hml hown hts (t_X13_is l D cs B G  V100 n hP.1 q hR (m) h_m 12 (by decide) ho106  (by omega) (by omega) (by omega) (by omega) (by omega) (by omega) (by omega) (by omega) (by omega) (by omega) (by omega) (by omega) (by omega) (by omega) ) hZ ho106 cv_X13_103 rfl rfl ⟨Nat.le_of_ble_eq_true rfl, Nat.le_of_ble_eq_true rfl⟩ rfl hl.1 rfl (Nat.le_of_ble_eq_true rfl) dX13_isKeyword_112 ⟨(Nat.le_of_ble_eq_true rfl), (Nat.le_of_ble_eq_true rfl)⟩) hZ (fun r112 V109 n110 _ _ hw111 hZ => ?_)
                        obtain ⟨rfl, hq113, ho115, hr114⟩ := hw111
                        have hP := hP.trans hq113 (fun _ _ => rfl)
                        have b116 := hq_rng r112
                        refine lv_if_ne (tgt := 163) hx hb dX13_isKeyword_115 (by decide) (fun c117 => ?_) (fun c117 => ?_)
                        · have c117 : ¬ (r112).toInt = (0 : Int) := fun h9 => c117 (hq_eqi.mpr h9)
                          refine lv_iconst (v := 1) hx hb dX13_isKeyword_163 (by decide) ?_
                          refine lv_goto (tgt := 168) hx hb dX13_isKeyword_164 (by decide) ?_
                          exact hp_zret hx hb hr rfl hlocks hZ ⟨rfl, hP, ho115, (by decide)⟩ dX13_isKeyword_168
                        · have c117 : (r112).toInt = (0 : Int) := hq_eqi.mp c117
                          refine lv_aload_n hx hb dX13_isKeyword_118 rfl (lv_at hl 1 rfl) ?_
                          refine va_ldcS (tx := (hp_so.getD 13 ("", 0, "")).2.2) (q := cs (100 + 13)) hx hb hown (hZ.2.2.2.2.2.2.2.2.2.2 13 (by decide)) dX13_isKeyword_119 ?_
                          refine hp_calli (hp_runV (As := [.ref (cs (100 + 13))]) (rest := []) hx hb hml hown hts (t_X13_is l D cs B G  V109 n hP.1 q hR (m) h_m 13 (by decide) ho115  (by omega) (by omega) (by omega) (by omega) (by omega) (by omega) (by omega) (by omega) (by omega) (by omega) (by omega) (by omega) (by omega) (by omega) ) hZ ho115 cv_X13_103 rfl rfl ⟨Nat.le_of_ble_eq_true rfl, Nat.le_of_ble_eq_true rfl⟩ rfl hl.1 rfl (Nat.le_of_ble_eq_true rfl) dX13_isKeyword_121 ⟨(Nat.le_of_ble_eq_true rfl), (Nat.le_of_ble_eq_true rfl)⟩) hZ (fun r121 V118 n119 _ _ hw120 hZ => ?_)
                          obtain ⟨rfl, hq122, ho124, hr123⟩ := hw120
                          have hP := hP.trans hq122 (fun _ _ => rfl)
                          have b125 := hq_rng r121
                          refine lv_if_ne (tgt := 163) hx hb dX13_isKeyword_124 (by decide) (fun c126 => ?_) (fun c126 => ?_)
                          · have c126 : ¬ (r121).toInt = (0 : Int) := fun h9 => c126 (hq_eqi.mpr h9)
                            refine lv_iconst (v := 1) hx hb dX13_isKeyword_163 (by decide) ?_
                            refine lv_goto (tgt := 168) hx hb dX13_isKeyword_164 (by decide) ?_
                            exact hp_zret hx hb hr rfl hlocks hZ ⟨rfl, hP, ho124, (by decide)⟩ dX13_isKeyword_168
                          · have c126 : (r121).toInt = (0 : Int) := hq_eqi.mp c126
                            refine lv_aload_n hx hb dX13_isKeyword_127 rfl (lv_at hl 1 rfl) ?_
                            refine va_ldcS (tx := (hp_so.getD 14 ("", 0, "")).2.2) (q := cs (100 + 14)) hx hb hown (hZ.2.2.2.2.2.2.2.2.2.2 14 (by decide)) dX13_isKeyword_128 ?_
                            refine hp_calli (hp_runV (As := [.ref (cs (100 + 14))]) (rest := []) hx hb hml hown hts (t_X13_is l D cs B G  V118 n hP.1 q hR (m) h_m 14 (by decide) ho124  (by omega) (by omega) (by omega) (by omega) (by omega) (by omega) (by omega) (by omega) (by omega) (by omega) (by omega) (by omega) (by omega) (by omega) ) hZ ho124 cv_X13_103 rfl rfl ⟨Nat.le_of_ble_eq_true rfl, Nat.le_of_ble_eq_true rfl⟩ rfl hl.1 rfl (Nat.le_of_ble_eq_true rfl) dX13_isKeyword_130 ⟨(Nat.le_of_ble_eq_true rfl), (Nat.le_of_ble_eq_true rfl)⟩) hZ (fun r130 V127 n128 _ _ hw129 hZ => ?_)
                            obtain ⟨rfl, hq131, ho133, hr132⟩ := hw129
                            have hP := hP.trans hq131 (fun _ _ => rfl)
                            have b134 := hq_rng r130
                            refine lv_if_ne (tgt := 163) hx hb dX13_isKeyword_133 (by decide) (fun c135 => ?_) (fun c135 => ?_)
                            · have c135 : ¬ (r130).toInt = (0 : Int) := fun h9 => c135 (hq_eqi.mpr h9)
                              refine lv_iconst (v := 1) hx hb dX13_isKeyword_163 (by decide) ?_
                              refine lv_goto (tgt := 168) hx hb dX13_isKeyword_164 (by decide) ?_
                              exact hp_zret hx hb hr rfl hlocks hZ ⟨rfl, hP, ho133, (by decide)⟩ dX13_isKeyword_168
                            · have c135 : (r130).toInt = (0 : Int) := hq_eqi.mp c135
                              refine lv_aload_n hx hb dX13_isKeyword_136 rfl (lv_at hl 1 rfl) ?_
                              refine va_ldcS (tx := (hp_so.getD 15 ("", 0, "")).2.2) (q := cs (100 + 15)) hx hb hown (hZ.2.2.2.2.2.2.2.2.2.2 15 (by decide)) dX13_isKeyword_137 ?_
                              refine hp_calli (hp_runV (As := [.ref (cs (100 + 15))]) (rest := []) hx hb hml hown hts (t_X13_is l D cs B G  V127 n hP.1 q hR (m) h_m 15 (by decide) ho133  (by omega) (by omega) (by omega) (by omega) (by omega) (by omega) (by omega) (by omega) (by omega) (by omega) (by omega) (by omega) (by omega) (by omega) ) hZ ho133 cv_X13_103 rfl rfl ⟨Nat.le_of_ble_eq_true rfl, Nat.le_of_ble_eq_true rfl⟩ rfl hl.1 rfl (Nat.le_of_ble_eq_true rfl) dX13_isKeyword_139 ⟨(Nat.le_of_ble_eq_true rfl), (Nat.le_of_ble_eq_true rfl)⟩) hZ (fun r139 V136 n137 _ _ hw138 hZ => ?_)
                              obtain ⟨rfl, hq140, ho142, hr141⟩ := hw138
                              have hP := hP.trans hq140 (fun _ _ => rfl)
                              have b143 := hq_rng r139
                              refine lv_if_ne (tgt := 163) hx hb dX13_isKeyword_142 (by decide) (fun c144 => ?_) (fun c144 => ?_)
                              · have c144 : ¬ (r139).toInt = (0 : Int) := fun h9 => c144 (hq_eqi.mpr h9)
                                refine lv_iconst (v := 1) hx hb dX13_isKeyword_163 (by decide) ?_
                                refine lv_goto (tgt := 168) hx hb dX13_isKeyword_164 (by decide) ?_
                                exact hp_zret hx hb hr rfl hlocks hZ ⟨rfl, hP, ho142, (by decide)⟩ dX13_isKeyword_168
                              · have c144 : (r139).toInt = (0 : Int) := hq_eqi.mp c144
                                refine lv_aload_n hx hb dX13_isKeyword_145 rfl (lv_at hl 1 rfl) ?_
                                refine va_ldcS (tx := (hp_so.getD 16 ("", 0, "")).2.2) (q := cs (100 + 16)) hx hb hown (hZ.2.2.2.2.2.2.2.2.2.2 16 (by decide)) dX13_isKeyword_146 ?_
                                refine hp_calli (hp_runV (As := [.ref (cs (100 + 16))]) (rest := []) hx hb hml hown hts (t_X13_is l D cs B G  V136 n hP.1 q hR (m) h_m 16 (by decide) ho142  (by omega) (by omega) (by omega) (by omega) (by omega) (by omega) (by omega) (by omega) (by omega) (by omega) (by omega) (by omega) (by omega) (by omega) ) hZ ho142 cv_X13_103 rfl rfl ⟨Nat.le_of_ble_eq_true rfl, Nat.le_of_ble_eq_true rfl⟩ rfl hl.1 rfl (Nat.le_of_ble_eq_true rfl) dX13_isKeyword_148 ⟨(Nat.le_of_ble_eq_true rfl), (Nat.le_of_ble_eq_true rfl)⟩) hZ (fun r148 V145 n146 _ _ hw147 hZ => ?_)
                                obtain ⟨rfl, hq149, ho151, hr150⟩ := hw147
                                have hP := hP.trans hq149 (fun _ _ => rfl)
                                have b152 := hq_rng r148
                                refine lv_if_ne (tgt := 163) hx hb dX13_isKeyword_151 (by decide) (fun c153 => ?_) (fun c153 => ?_)
                                · have c153 : ¬ (r148).toInt = (0 : Int) := fun h9 => c153 (hq_eqi.mpr h9)
                                  refine lv_iconst (v := 1) hx hb dX13_isKeyword_163 (by decide) ?_
                                  refine lv_goto (tgt := 168) hx hb dX13_isKeyword_164 (by decide) ?_
                                  exact hp_zret hx hb hr rfl hlocks hZ ⟨rfl, hP, ho151, (by decide)⟩ dX13_isKeyword_168
                                · have c153 : (r148).toInt = (0 : Int) := hq_eqi.mp c153
                                  refine lv_aload_n hx hb dX13_isKeyword_154 rfl (lv_at hl 1 rfl) ?_
                                  refine va_ldcS (tx := (hp_so.getD 17 ("", 0, "")).2.2) (q := cs (100 + 17)) hx hb hown (hZ.2.2.2.2.2.2.2.2.2.2 17 (by decide)) dX13_isKeyword_155 ?_
                                  refine hp_calli (hp_runV (As := [.ref (cs (100 + 17))]) (rest := []) hx hb hml hown hts (t_X13_is l D cs B G  V145 n hP.1 q hR (m) h_m 17 (by decide) ho151  (by omega) (by omega) (by omega) (by omega) (by omega) (by omega) (by omega) (by omega) (by omega) (by omega) (by omega) (by omega) (by omega) (by omega) ) hZ ho151 cv_X13_103 rfl rfl ⟨Nat.le_of_ble_eq_true rfl, Nat.le_of_ble_eq_true rfl⟩ rfl hl.1 rfl (Nat.le_of_ble_eq_true rfl) dX13_isKeyword_157 ⟨(Nat.le_of_ble_eq_true rfl), (Nat.le_of_ble_eq_true rfl)⟩) hZ (fun r157 V154 n155 _ _ hw156 hZ => ?_)
                                  obtain ⟨rfl, hq158, ho160, hr159⟩ := hw156
                                  have hP := hP.trans hq158 (fun _ _ => rfl)
                                  have b161 := hq_rng r157
                                  refine lv_if_eq (tgt := 167) hx hb dX13_isKeyword_160 (by decide) (fun c162 => ?_) (fun c162 => ?_)
                                  · have c162 : (r157).toInt = (0 : Int) := hq_eqi.mp c162
                                    refine lv_iconst (v := 0) hx hb dX13_isKeyword_167 (by decide) ?_
                                    exact hp_zret hx hb hr rfl hlocks hZ ⟨rfl, hP, ho160, (by decide)⟩ dX13_isKeyword_168
                                  · have c162 : ¬ (r157).toInt = (0 : Int) := fun h9 => c162 (hq_eqi.mpr h9)
                                    refine lv_iconst (v := 1) hx hb dX13_isKeyword_163 (by decide) ?_
                                    refine lv_goto (tgt := 168) hx hb dX13_isKeyword_164 (by decide) ?_
                                    exact hp_zret hx hb hr rfl hlocks hZ ⟨rfl, hP, ho160, (by decide)⟩ dX13_isKeyword_168
                  · have c89 : ¬ (r84).toInt = (0 : Int) := fun h9 => c89 (hq_eqi.mpr h9)
                    refine lv_iconst (v := 1) hx hb dX13_isKeyword_81 (by decide) ?_
                    refine lv_goto (tgt := 86) hx hb dX13_isKeyword_82 (by decide) ?_
                    refine lv_istore_n (lv' := [(1, .int (1)), (0, .ref (m))]) hx hb dX13_isKeyword_86 rfl hl (by decide) rfl (fun ls hl => ?_)
                    refine lv_iload_n hx hb dX13_isKeyword_87 rfl (lv_at hl 0 rfl) ?_
                    refine lv_if_ne (tgt := 163) hx hb dX13_isKeyword_88 (by decide) (fun c163 => ?_) (fun c163 => absurd c163 (by decide))
                    refine lv_iconst (v := 1) hx hb dX13_isKeyword_163 (by decide) ?_
                    refine lv_goto (tgt := 168) hx hb dX13_isKeyword_164 (by decide) ?_
                    exact hp_zret hx hb hr rfl hlocks hZ ⟨rfl, hP, ho87, (by decide)⟩ dX13_isKeyword_168

set_option maxHeartbeats 4000000 in
set_option maxRecDepth 100000 in
theorem t_X13_need (l : Launch) (D : va_G) (cs : Nat → ClassId) (B : Nat) (G : hq_G) (V : hp_V) (n : Nat) (hI : hq_I cs G V) (q : Nat) (hR : hq_RT G q) (m : Nat) (h_m : G m = some (24, 0, 0, 0)) (i : Nat) (h_i : i < 18) {m_tp m_sz m_fr m_bh m_hd m_ft m_fa m_le m_fo m_as m_fd m_bc m_bg m_bs m_be m_b0 m_b1 m_cm m_hc : Int32} (ho_m : V m = some (.inr (13, hm_o q (m_tp) (m_sz) (m_fr) (m_bh) (m_hd) (m_ft) (m_fa) (m_le) (m_fo) (m_as) (m_fd) (m_bc) (m_bg) (m_bs) (m_be) (m_b0) (m_b1) (m_cm) (m_hc)))) (hi_m0 : 0 ≤ m_tp.toInt ∧ m_tp.toInt ≤ 4000) (hi_m1 : 0 ≤ m_sz.toInt ∧ m_sz.toInt ≤ 4000) (hi_m2 : 0 ≤ m_le.toInt ∧ m_le.toInt ≤ 276) (hi_m3 : 0 ≤ m_fo.toInt ∧ m_fo.toInt ≤ 4) (hi_m4 : 0 ≤ m_as.toInt ∧ m_as.toInt ≤ 4000) (hi_m5 : 0 ≤ m_fd.toInt ∧ m_fd.toInt ≤ 900) (hi_m6 : 0 ≤ m_cm.toInt ∧ m_cm.toInt ≤ 2) (hi_m7 : 0 ≤ m_hc.toInt ∧ m_hc.toInt ≤ 1) (hi_m8 : 0 ≤ m_fr.toInt ∧ m_fr.toInt ≤ m_sz.toInt) (hi_m9 : 0 ≤ m_bh.toInt ∧ m_bh.toInt ≤ m_sz.toInt + 1) (hi_m10 : m_bh.toInt ≤ m_sz.toInt ∨ m_hd.toInt = 5) (hi_m11 : ¬ m_hd.toInt = 1 ∨ (m_fr.toInt + 1 ≤ m_bh.toInt ∧ m_bh.toInt ≤ m_fr.toInt + 12)) (hi_m12 : ¬ m_hd.toInt = 3 ∨ (m_fr.toInt + 2 ≤ m_bh.toInt ∧ m_bh.toInt ≤ m_fr.toInt + 10)) (hi_m13 : ¬ m_hd.toInt = 2 ∨ m_bh.toInt = m_fr.toInt + 1) : hq_M l yX13_need cX13_need 2 none ({ frames := 6, cells := 0, slots := 0, locals := 129 }) D cs B V n [.ref (m), .ref (cs (100 + i))] (hq_QX D cs B (fun v V' n' => v = none ∧ n = n' ∧ hq_P cs G (fun g => g.1 == 1) V V' ∧ (∃ (m_fr1 : Int32) (m_bh1 : Int32) (m_hd1 : Int32) (m_ft1 : Int32) (m_fa1 : Int32), V' m = some (.inr (13, hm_o q (m_tp) (m_sz) (m_fr1) (m_bh1) (m_hd1) (m_ft1) (m_fa1) (m_le) (m_fo) (m_as) (m_fd) (m_bc) (m_bg) (m_bs) (m_be) (m_b0) (m_b1) (m_cm) (m_hc))) ∧ (0 ≤ m_fr1.toInt ∧ m_fr1.toInt ≤ m_sz.toInt) ∧ (0 ≤ m_bh1.toInt ∧ m_bh1.toInt ≤ m_sz.toInt + 1) ∧ (m_bh1.toInt ≤ m_sz.toInt ∨ m_hd1.toInt = 5) ∧ (¬ m_hd1.toInt = 1 ∨ (m_fr1.toInt + 1 ≤ m_bh1.toInt ∧ m_bh1.toInt ≤ m_fr1.toInt + 12)) ∧ (¬ m_hd1.toInt = 3 ∨ (m_fr1.toInt + 2 ≤ m_bh1.toInt ∧ m_bh1.toInt ≤ m_fr1.toInt + 10)) ∧ (¬ m_hd1.toInt = 2 ∨ m_bh1.toInt = m_fr1.toInt + 1))) (fun x V' n' => x = q + 19 ∧ n = n' ∧ hq_P cs G (fun g => g.1 == 1) V V' ∧ (∃ (m_fr1 : Int32) (m_bh1 : Int32) (m_hd1 : Int32) (m_ft1 : Int32) (m_fa1 : Int32), V' m = some (.inr (13, hm_o q (m_tp) (m_sz) (m_fr1) (m_bh1) (m_hd1) (m_ft1) (m_fa1) (m_le) (m_fo) (m_as) (m_fd) (m_bc) (m_bg) (m_bs) (m_be) (m_b0) (m_b1) (m_cm) (m_hc))) ∧ (0 ≤ m_fr1.toInt ∧ m_fr1.toInt ≤ m_sz.toInt) ∧ (0 ≤ m_bh1.toInt ∧ m_bh1.toInt ≤ m_sz.toInt + 1) ∧ (m_bh1.toInt ≤ m_sz.toInt ∨ m_hd1.toInt = 5) ∧ (¬ m_hd1.toInt = 1 ∨ (m_fr1.toInt + 1 ≤ m_bh1.toInt ∧ m_bh1.toInt ≤ m_fr1.toInt + 12)) ∧ (¬ m_hd1.toInt = 3 ∨ (m_fr1.toInt + 2 ≤ m_bh1.toInt ∧ m_bh1.toInt ≤ m_fr1.toInt + 10)) ∧ (¬ m_hd1.toInt = 2 ∨ m_bh1.toInt = m_fr1.toInt + 1)))) 0 0 := by
  refine hq_walk (R0 := RX13) (by decide) rfl ?_ (Nat.le_of_ble_eq_true rfl)
  intro p e s m below meth c ls hx hb hr hts hown hlocks hin hml hnx hZ hl
  have hP : hq_P cs G (fun g => g.1 == 1) V V := hq_P.rf hI
  have hl : lv_has ls 2 [(0, .ref (m)), (1, .ref (cs (100 + i)))] := hl
  have hb_m_tp := hq_rng m_tp
  have hb_m_sz := hq_rng m_sz
  have hb_m_fr := hq_rng m_fr
  have hb_m_bh := hq_rng m_bh
  have hb_m_hd := hq_rng m_hd
  have hb_m_ft := hq_rng m_ft
  have hb_m_fa := hq_rng m_fa
  have hb_m_le := hq_rng m_le
  have hb_m_fo := hq_rng m_fo
  have hb_m_as := hq_rng m_as
  have hb_m_fd := hq_rng m_fd
  have hb_m_bc := hq_rng m_bc
  have hb_m_bg := hq_rng m_bg
  have hb_m_bs := hq_rng m_bs
  have hb_m_be := hq_rng m_be
  have hb_m_b0 := hq_rng m_b0
  have hb_m_b1 := hq_rng m_b1
  have hb_m_cm := hq_rng m_cm
  have hb_m_hc := hq_rng m_hc
  refine lv_aload_n hx hb dX13_need_0 rfl (lv_at hl 0 rfl) ?_
  refine lv_aload_n hx hb dX13_need_1 rfl (lv_at hl 1 rfl) ?_
  refine hp_calli (hp_runV (As := [.ref (cs (100 + i))]) (rest := []) hx hb hml hown hts (t_X13_is l D cs B G  V n hP.1 q hR (m) h_m i h_i ho_m  (by omega) (by omega) (by omega) (by omega) (by omega) (by omega) (by omega) (by omega) (by omega) (by omega) (by omega) (by omega) (by omega) (by omega) ) hZ ho_m cv_X13_103 rfl rfl ⟨Nat.le_of_ble_eq_true rfl, Nat.le_of_ble_eq_true rfl⟩ rfl hl.1 rfl (Nat.le_of_ble_eq_true rfl) dX13_need_2 ⟨(Nat.le_of_ble_eq_true rfl), (Nat.le_of_ble_eq_true rfl)⟩) hZ (fun r4 V1 n2 _ _ hw3 hZ => ?_)
  obtain ⟨rfl, hq5, ho7, hr6⟩ := hw3
  have hP := hP.trans hq5 (fun _ _ => rfl)
  have b8 := hq_rng r4
  refine lv_if_ne (tgt := 14) hx hb dX13_need_5 (by decide) (fun c9 => ?_) (fun c9 => ?_)
  · have c9 : ¬ (r4).toInt = (0 : Int) := fun h9 => c9 (hq_eqi.mpr h9)
    refine lv_aload_n hx hb dX13_need_14 rfl (lv_at hl 0 rfl) ?_
    refine hp_callv (hp_runV (As := []) (rest := []) hx hb hml hown hts (t_X13_scan l D cs B G  V1 n hP.1 q hR (m) h_m ho7  (by omega) (by omega) (by omega) (by omega) (by omega) (by omega) (by omega) (by omega) (by omega) (by omega)) hZ ho7 cv_X13_111 rfl rfl ⟨Nat.le_of_ble_eq_true rfl, Nat.le_of_ble_eq_true rfl⟩ rfl hl.1 rfl (Nat.le_of_ble_eq_true rfl) dX13_need_15 ⟨(Nat.le_of_ble_eq_true rfl), (Nat.le_of_ble_eq_true rfl)⟩) hZ (fun V10 n11 _ _ hw12 hZ => ?_)
    obtain ⟨rfl, hq14, ⟨z16, z17, z18, ho19, hi20⟩⟩ := hw12
    have hP := hP.trans hq14 (by intro g h; simp_all)
    have b21 := hq_rng z16
    have b22 := hq_rng z17
    have b23 := hq_rng z18
    exact hq_vret hx hb hr hlocks hZ ⟨rfl, rfl, hP, ⟨z16, z17, z18, m_ft, m_fa, ho19, by omega, by omega, by omega, by omega, by omega, by omega⟩⟩ dX13_need_18
  · have c9 : (r4).toInt = (0 : Int) := hq_eqi.mp c9
    refine lv_aload_n hx hb dX13_need_8 rfl (lv_at hl 0 rfl) ?_
    refine lv_iconst (v := 1) hx hb dX13_need_9 (by decide) ?_
    have hl33 : (1 : Int32).toInt = 1 := by decide
    refine hp_callq (hp_runV (As := [.int (1)]) (rest := []) hx hb hml hown hts (t_X13_wrong l D cs B G  V1 n hP.1 q hR (m) h_m (1) ho7  (by omega) (by omega) (by omega) (by omega) (by omega) (by omega) (by omega) (by omega) ) hZ ho7 cv_X13_107 rfl rfl ⟨Nat.le_of_ble_eq_true rfl, Nat.le_of_ble_eq_true rfl⟩ rfl hl.1 rfl (Nat.le_of_ble_eq_true rfl) dX13_need_10 ⟨(Nat.le_of_ble_eq_true rfl), (Nat.le_of_ble_eq_true rfl)⟩) hZ (fun r27 V24 n25 _ _ hw26 hZ => ?_)
    obtain ⟨rfl, hq28, ⟨z30, z31, ho32⟩, hr29⟩ := hw26
    have hP := hP.trans hq28 (by intro g h; simp_all)
    have b34 := hq_rng z30
    have b35 := hq_rng z31
    subst hr29
    refine W.eq (g2 := F0 m 13 ls [.ref (q + 19)]) rfl ?_
    exact hq_athrow hx hb hnx hlocks hZ ⟨rfl, rfl, hP, ⟨m_fr, m_bh, m_hd, z30, z31, ho32, by omega, by omega, by omega, by omega, by omega, by omega⟩⟩ dX13_need_13

set_option maxHeartbeats 4000000 in
set_option maxRecDepth 100000 in
theorem t_X13_needName (l : Launch) (D : va_G) (cs : Nat → ClassId) (B : Nat) (G : hq_G) (V : hp_V) (n : Nat) (hI : hq_I cs G V) (q : Nat) (hR : hq_RT G q) (m : Nat) (h_m : G m = some (24, 0, 0, 0)) {m_tp m_sz m_fr m_bh m_hd m_ft m_fa m_le m_fo m_as m_fd m_bc m_bg m_bs m_be m_b0 m_b1 m_cm m_hc : Int32} (ho_m : V m = some (.inr (13, hm_o q (m_tp) (m_sz) (m_fr) (m_bh) (m_hd) (m_ft) (m_fa) (m_le) (m_fo) (m_as) (m_fd) (m_bc) (m_bg) (m_bs) (m_be) (m_b0) (m_b1) (m_cm) (m_hc)))) (hi_m0 : 0 ≤ m_tp.toInt ∧ m_tp.toInt ≤ 4000) (hi_m1 : 0 ≤ m_sz.toInt ∧ m_sz.toInt ≤ 4000) (hi_m2 : 0 ≤ m_le.toInt ∧ m_le.toInt ≤ 276) (hi_m3 : 0 ≤ m_fo.toInt ∧ m_fo.toInt ≤ 4) (hi_m4 : 0 ≤ m_as.toInt ∧ m_as.toInt ≤ 4000) (hi_m5 : 0 ≤ m_fd.toInt ∧ m_fd.toInt ≤ 900) (hi_m6 : 0 ≤ m_cm.toInt ∧ m_cm.toInt ≤ 2) (hi_m7 : 0 ≤ m_hc.toInt ∧ m_hc.toInt ≤ 1) (hi_m8 : 0 ≤ m_fr.toInt ∧ m_fr.toInt ≤ m_sz.toInt) (hi_m9 : 0 ≤ m_bh.toInt ∧ m_bh.toInt ≤ m_sz.toInt + 1) (hi_m10 : m_bh.toInt ≤ m_sz.toInt ∨ m_hd.toInt = 5) (hi_m11 : ¬ m_hd.toInt = 1 ∨ (m_fr.toInt + 1 ≤ m_bh.toInt ∧ m_bh.toInt ≤ m_fr.toInt + 12)) (hi_m12 : ¬ m_hd.toInt = 3 ∨ (m_fr.toInt + 2 ≤ m_bh.toInt ∧ m_bh.toInt ≤ m_fr.toInt + 10)) (hi_m13 : ¬ m_hd.toInt = 2 ∨ m_bh.toInt = m_fr.toInt + 1) : hq_M l yX13_needName cX13_needName 1 none ({ frames := 7, cells := 0, slots := 0, locals := 150 }) D cs B V n [.ref (m)] (hq_QX D cs B (fun v V' n' => v = none ∧ n = n' ∧ hq_P cs G (fun g => g.1 == 1) V V' ∧ (∃ (m_ft1 : Int32) (m_fa1 : Int32), V' m = some (.inr (13, hm_o q (m_tp) (m_sz) (m_fr) (m_bh) (m_hd) (m_ft1) (m_fa1) (m_le) (m_fo) (m_as) (m_fd) (m_bc) (m_bg) (m_bs) (m_be) (m_b0) (m_b1) (m_cm) (m_hc)))) ∧ (m_hd.toInt = 1)) (fun x V' n' => x = q + 19 ∧ n = n' ∧ hq_P cs G (fun g => g.1 == 1) V V' ∧ (∃ (m_ft1 : Int32) (m_fa1 : Int32), V' m = some (.inr (13, hm_o q (m_tp) (m_sz) (m_fr) (m_bh) (m_hd) (m_ft1) (m_fa1) (m_le) (m_fo) (m_as) (m_fd) (m_bc) (m_bg) (m_bs) (m_be) (m_b0) (m_b1) (m_cm) (m_hc)))))) 0 0 := by
  refine hq_walk (R0 := RX13) (by decide) rfl ?_ (Nat.le_of_ble_eq_true rfl)
  intro p e s m below meth c ls hx hb hr hts hown hlocks hin hml hnx hZ hl
  have hP : hq_P cs G (fun g => g.1 == 1) V V := hq_P.rf hI
  have hl : lv_has ls 1 [(0, .ref (m))] := hl
  have hb_m_tp := hq_rng m_tp
  have hb_m_sz := hq_rng m_sz
  have hb_m_fr := hq_rng m_fr
  have hb_m_bh := hq_rng m_bh
  have hb_m_hd := hq_rng m_hd
  have hb_m_ft := hq_rng m_ft
  have hb_m_fa := hq_rng m_fa
  have hb_m_le := hq_rng m_le
  have hb_m_fo := hq_rng m_fo
  have hb_m_as := hq_rng m_as
  have hb_m_fd := hq_rng m_fd
  have hb_m_bc := hq_rng m_bc
  have hb_m_bg := hq_rng m_bg
  have hb_m_bs := hq_rng m_bs
  have hb_m_be := hq_rng m_be
  have hb_m_b0 := hq_rng m_b0
  have hb_m_b1 := hq_rng m_b1
  have hb_m_cm := hq_rng m_cm
  have hb_m_hc := hq_rng m_hc
  refine lv_aload_n hx hb dX13_needName_0 rfl (lv_at hl 0 rfl) ?_
  refine hp_get (v := .int (m_hd)) hx hb hts hown hZ ho_m fl_X13_83 rfl dX13_needName_1 ?_
  refine lv_iconst (v := 1) hx hb dX13_needName_4 (by decide) ?_
  refine lv_icmp_ne (tgt := 15) hx hb dX13_needName_5 (by decide) (fun c1 => ?_) (fun c1 => ?_)
  · have c1 : ¬ (m_hd).toInt = (1 : Int) := fun h9 => c1 (hq_eqi.mpr h9)
    refine lv_aload_n hx hb dX13_needName_15 rfl (lv_at hl 0 rfl) ?_
    refine lv_iconst (v := 1) hx hb dX13_needName_16 (by decide) ?_
    have hl11 : (1 : Int32).toInt = 1 := by decide
    refine hp_callq (hp_runV (As := [.int (1)]) (rest := []) hx hb hml hown hts (t_X13_wrong l D cs B G  V n hP.1 q hR (m) h_m (1) ho_m  (by omega) (by omega) (by omega) (by omega) (by omega) (by omega) (by omega) (by omega) ) hZ ho_m cv_X13_107 rfl rfl ⟨Nat.le_of_ble_eq_true rfl, Nat.le_of_ble_eq_true rfl⟩ rfl hl.1 rfl (Nat.le_of_ble_eq_true rfl) dX13_needName_17 ⟨(Nat.le_of_ble_eq_true rfl), (Nat.le_of_ble_eq_true rfl)⟩) hZ (fun r5 V2 n3 _ _ hw4 hZ => ?_)
    obtain ⟨rfl, hq6, ⟨z8, z9, ho10⟩, hr7⟩ := hw4
    have hP := hP.trans hq6 (by intro g h; simp_all)
    have b12 := hq_rng z8
    have b13 := hq_rng z9
    subst hr7
    refine W.eq (g2 := F0 m 20 ls [.ref (q + 19)]) rfl ?_
    exact hq_athrow hx hb hnx hlocks hZ ⟨rfl, rfl, hP, ⟨z8, z9, ho10⟩⟩ dX13_needName_20
  · have c1 : (m_hd).toInt = (1 : Int) := hq_eqi.mp c1
    refine lv_aload_n hx hb dX13_needName_8 rfl (lv_at hl 0 rfl) ?_
    refine hp_calli (hp_runV (As := []) (rest := []) hx hb hml hown hts (t_X13_isKeyword l D cs B G  V n hP.1 q hR (m) h_m ho_m  (by omega) (by omega) (by omega) (by omega) (by omega) (by omega) (by omega) (by omega) (by omega) (by omega) (by omega) (by omega) (by omega) (by omega) ) hZ ho_m cv_X13_146 rfl rfl ⟨Nat.le_of_ble_eq_true rfl, Nat.le_of_ble_eq_true rfl⟩ rfl hl.1 rfl (Nat.le_of_ble_eq_true rfl) dX13_needName_9 ⟨(Nat.le_of_ble_eq_true rfl), (Nat.le_of_ble_eq_true rfl)⟩) hZ (fun r17 V14 n15 _ _ hw16 hZ => ?_)
    obtain ⟨rfl, hq18, ho20, hr19⟩ := hw16
    have hP := hP.trans hq18 (fun _ _ => rfl)
    have b21 := hq_rng r17
    refine lv_if_eq (tgt := 21) hx hb dX13_needName_12 (by decide) (fun c22 => ?_) (fun c22 => ?_)
    · have c22 : (r17).toInt = (0 : Int) := hq_eqi.mp c22
      exact hq_vret hx hb hr hlocks hZ ⟨rfl, rfl, hP, ⟨m_ft, m_fa, ho20⟩, (by omega)⟩ dX13_needName_21
    · have c22 : ¬ (r17).toInt = (0 : Int) := fun h9 => c22 (hq_eqi.mpr h9)
      refine lv_aload_n hx hb dX13_needName_15 rfl (lv_at hl 0 rfl) ?_
      refine lv_iconst (v := 1) hx hb dX13_needName_16 (by decide) ?_
      have hl32 : (1 : Int32).toInt = 1 := by decide
      refine hp_callq (hp_runV (As := [.int (1)]) (rest := []) hx hb hml hown hts (t_X13_wrong l D cs B G  V14 n hP.1 q hR (m) h_m (1) ho20  (by omega) (by omega) (by omega) (by omega) (by omega) (by omega) (by omega) (by omega) ) hZ ho20 cv_X13_107 rfl rfl ⟨Nat.le_of_ble_eq_true rfl, Nat.le_of_ble_eq_true rfl⟩ rfl hl.1 rfl (Nat.le_of_ble_eq_true rfl) dX13_needName_17 ⟨(Nat.le_of_ble_eq_true rfl), (Nat.le_of_ble_eq_true rfl)⟩) hZ (fun r26 V23 n24 _ _ hw25 hZ => ?_)
      obtain ⟨rfl, hq27, ⟨z29, z30, ho31⟩, hr28⟩ := hw25
      have hP := hP.trans hq27 (by intro g h; simp_all)
      have b33 := hq_rng z29
      have b34 := hq_rng z30
      subst hr28
      refine W.eq (g2 := F0 m 20 ls [.ref (q + 19)]) rfl ?_
      exact hq_athrow hx hb hnx hlocks hZ ⟨rfl, rfl, hP, ⟨z29, z30, ho31⟩⟩ dX13_needName_20

set_option maxHeartbeats 4000000 in
set_option maxRecDepth 100000 in
theorem t_X13_digit (l : Launch) (D : va_G) (cs : Nat → ClassId) (B : Nat) (G : hq_G) (V : hp_V) (n : Nat) (hI : hq_I cs G V) (q : Nat) (hR : hq_RT G q) (m : Nat) (h_m : G m = some (24, 0, 0, 0)) (k : Int32) {m_tp m_sz m_fr m_bh m_hd m_ft m_fa m_le m_fo m_as m_fd m_bc m_bg m_bs m_be m_b0 m_b1 m_cm m_hc : Int32} (ho_m : V m = some (.inr (13, hm_o q (m_tp) (m_sz) (m_fr) (m_bh) (m_hd) (m_ft) (m_fa) (m_le) (m_fo) (m_as) (m_fd) (m_bc) (m_bg) (m_bs) (m_be) (m_b0) (m_b1) (m_cm) (m_hc)))) (hi_m0 : 0 ≤ m_tp.toInt ∧ m_tp.toInt ≤ 4000) (hi_m1 : 0 ≤ m_sz.toInt ∧ m_sz.toInt ≤ 4000) (hi_m2 : 0 ≤ m_le.toInt ∧ m_le.toInt ≤ 276) (hi_m3 : 0 ≤ m_fo.toInt ∧ m_fo.toInt ≤ 4) (hi_m4 : 0 ≤ m_as.toInt ∧ m_as.toInt ≤ 4000) (hi_m5 : 0 ≤ m_fd.toInt ∧ m_fd.toInt ≤ 900) (hi_m6 : 0 ≤ m_cm.toInt ∧ m_cm.toInt ≤ 2) (hi_m7 : 0 ≤ m_hc.toInt ∧ m_hc.toInt ≤ 1) (hi_m8 : 0 ≤ m_fr.toInt ∧ m_fr.toInt ≤ m_sz.toInt) (hi_m9 : 0 ≤ m_bh.toInt ∧ m_bh.toInt ≤ m_sz.toInt + 1) (hi_m10 : m_bh.toInt ≤ m_sz.toInt ∨ m_hd.toInt = 5) (hi_m11 : ¬ m_hd.toInt = 1 ∨ (m_fr.toInt + 1 ≤ m_bh.toInt ∧ m_bh.toInt ≤ m_fr.toInt + 12)) (hi_m12 : ¬ m_hd.toInt = 3 ∨ (m_fr.toInt + 2 ≤ m_bh.toInt ∧ m_bh.toInt ≤ m_fr.toInt + 10)) (hi_m13 : ¬ m_hd.toInt = 2 ∨ m_bh.toInt = m_fr.toInt + 1) : hq_M l yX13_digit cX13_digit 3 (some .int) ({ frames := 3, cells := 0, slots := 0, locals := 64 }) D cs B V n [.ref (m), .int (k)] (hq_QX D cs B (fun v V' n' => ∃ r : Int32, v = some (.int r) ∧ n = n' ∧ hq_P cs G (fun g => g.1 == 1) V V' ∧ (∃ (m_fr1 : Int32) (m_bh1 : Int32) (m_hd1 : Int32) (m_ft1 : Int32) (m_fa1 : Int32), V' m = some (.inr (13, hm_o q (m_tp) (m_sz) (m_fr1) (m_bh1) (m_hd1) (m_ft1) (m_fa1) (m_le) (m_fo) (m_as) (m_fd) (m_bc) (m_bg) (m_bs) (m_be) (m_b0) (m_b1) (m_cm) (m_hc))) ∧ (0 ≤ m_fr1.toInt ∧ m_fr1.toInt ≤ m_sz.toInt) ∧ (0 ≤ m_bh1.toInt ∧ m_bh1.toInt ≤ m_sz.toInt + 1) ∧ (m_bh1.toInt ≤ m_sz.toInt ∨ m_hd1.toInt = 5) ∧ (¬ m_hd1.toInt = 1 ∨ (m_fr1.toInt + 1 ≤ m_bh1.toInt ∧ m_bh1.toInt ≤ m_fr1.toInt + 12)) ∧ (¬ m_hd1.toInt = 3 ∨ (m_fr1.toInt + 2 ≤ m_bh1.toInt ∧ m_bh1.toInt ≤ m_fr1.toInt + 10)) ∧ (¬ m_hd1.toInt = 2 ∨ m_bh1.toInt = m_fr1.toInt + 1)) ∧ True) (fun x V' n' => x = q + 19 ∧ n = n' ∧ hq_P cs G (fun g => g.1 == 1) V V' ∧ (∃ (m_fr1 : Int32) (m_bh1 : Int32) (m_hd1 : Int32) (m_ft1 : Int32) (m_fa1 : Int32), V' m = some (.inr (13, hm_o q (m_tp) (m_sz) (m_fr1) (m_bh1) (m_hd1) (m_ft1) (m_fa1) (m_le) (m_fo) (m_as) (m_fd) (m_bc) (m_bg) (m_bs) (m_be) (m_b0) (m_b1) (m_cm) (m_hc))) ∧ (0 ≤ m_fr1.toInt ∧ m_fr1.toInt ≤ m_sz.toInt) ∧ (0 ≤ m_bh1.toInt ∧ m_bh1.toInt ≤ m_sz.toInt + 1) ∧ (m_bh1.toInt ≤ m_sz.toInt ∨ m_hd1.toInt = 5) ∧ (¬ m_hd1.toInt = 1 ∨ (m_fr1.toInt + 1 ≤ m_bh1.toInt ∧ m_bh1.toInt ≤ m_fr1.toInt + 12)) ∧ (¬ m_hd1.toInt = 3 ∨ (m_fr1.toInt + 2 ≤ m_bh1.toInt ∧ m_bh1.toInt ≤ m_fr1.toInt + 10)) ∧ (¬ m_hd1.toInt = 2 ∨ m_bh1.toInt = m_fr1.toInt + 1)))) 0 0 := by
  refine hq_walk (R0 := RX13) (by decide) rfl ?_ (Nat.le_of_ble_eq_true rfl)
  intro p e s m below meth c ls hx hb hr hts hown hlocks hin hml hnx hZ hl
  have hP : hq_P cs G (fun g => g.1 == 1) V V := hq_P.rf hI
  have hl : lv_has ls 3 [(0, .ref (m)), (1, .int (k))] := hl
  have hb_k := hq_rng k
  have hb_m_tp := hq_rng m_tp
  have hb_m_sz := hq_rng m_sz
  have hb_m_fr := hq_rng m_fr
  have hb_m_bh := hq_rng m_bh
  have hb_m_hd := hq_rng m_hd
  have hb_m_ft := hq_rng m_ft
  have hb_m_fa := hq_rng m_fa
  have hb_m_le := hq_rng m_le
  have hb_m_fo := hq_rng m_fo
  have hb_m_as := hq_rng m_as
  have hb_m_fd := hq_rng m_fd
  have hb_m_bc := hq_rng m_bc
  have hb_m_bg := hq_rng m_bg
  have hb_m_bs := hq_rng m_bs
  have hb_m_be := hq_rng m_be
  have hb_m_b0 := hq_rng m_b0
  have hb_m_b1 := hq_rng m_b1
  have hb_m_cm := hq_rng m_cm
  have hb_m_hc := hq_rng m_hc
  refine lv_aload_n hx hb dX13_digit_0 rfl (lv_at hl 0 rfl) ?_
  refine hp_get (v := .int (m_hd)) hx hb hts hown hZ ho_m fl_X13_83 rfl dX13_digit_1 ?_
  refine lv_iconst (v := 2) hx hb dX13_digit_4 (by decide) ?_
  refine lv_icmp_eq (tgt := 14) hx hb dX13_digit_5 (by decide) (fun c1 => ?_) (fun c1 => ?_)
  · have c1 : (m_hd).toInt = (2 : Int) := hq_eqi.mp c1
    refine lv_aload_n hx hb dX13_digit_14 rfl (lv_at hl 0 rfl) ?_
    refine hp_get (v := .ref (q + 20)) hx hb hts hown hZ ho_m fl_X13_73 rfl dX13_digit_15 ?_
    refine lv_aload_n hx hb dX13_digit_18 rfl (lv_at hl 0 rfl) ?_
    refine hp_get (v := .int (m_fr)) hx hb hts hown hZ ho_m fl_X13_60 rfl dX13_digit_19 ?_
    obtain ⟨hN4, g3, eV2⟩ := hq_o20 hP.1 (hr_20 hR)
    refine hp_bald hx hb hZ eV2 (hq_in (by omega) (by omega)) dX13_digit_22 ?_
    refine lv_topi (fun y6 ey7 => ?_)
    have b8 := hq_rng y6
    refine lv_bipush (v := 48) hx hb dX13_digit_23 (by decide) ?_
    refine lv_isub hx hb dX13_digit_25 ?_
    refine lv_topi (fun y9 ey10 => ?_)
    obtain ⟨k11, hk12, b13, b14⟩ := hq_sub (y6) (48)
    rw [← ey10] at hk12 b13 b14
    have hk12 : (y9).toInt = (y6).toInt - (48 : Int) + k11 * 4294967296 := hk12
    refine lv_istore_n (lv' := [(2, .int (y9)), (0, .ref (m)), (1, .int (k))]) hx hb dX13_digit_26 rfl hl (by decide) rfl (fun ls hl => ?_)
    refine lv_iload_n hx hb dX13_digit_27 rfl (lv_at hl 0 rfl) ?_
    refine lv_iload_n hx hb dX13_digit_28 rfl (lv_at hl 2 rfl) ?_
    refine lv_icmp_le (tgt := 38) hx hb dX13_digit_29 (by decide) (fun c15 => ?_) (fun c15 => ?_)
    · have c15 : (y9).toInt ≤ (k).toInt := hq_lei.mp c15
      refine lv_aload_n hx hb dX13_digit_38 rfl (lv_at hl 1 rfl) ?_
      refine hp_callv (hp_runV (As := []) (rest := []) hx hb hml hown hts (t_X13_scan l D cs B G  V n hP.1 q hR (m) h_m ho_m  (by omega) (by omega) (by omega) (by omega) (by omega) (by omega) (by omega) (by omega) (by omega) (by omega)) hZ ho_m cv_X13_111 rfl rfl ⟨Nat.le_of_ble_eq_true rfl, Nat.le_of_ble_eq_true rfl⟩ rfl hl.1 rfl (Nat.le_of_ble_eq_true rfl) dX13_digit_39 ⟨(Nat.le_of_ble_eq_true rfl), (Nat.le_of_ble_eq_true rfl)⟩) hZ (fun V16 n17 _ _ hw18 hZ => ?_)
      obtain ⟨rfl, hq20, ⟨z22, z23, z24, ho25, hi26⟩⟩ := hw18
      have hP := hP.trans hq20 (by intro g h; simp_all)
      have b27 := hq_rng z22
      have b28 := hq_rng z23
      have b29 := hq_rng z24
      refine lv_iload_n hx hb dX13_digit_42 rfl (lv_at hl 0 rfl) ?_
      exact hq_iret hx hb hr hlocks hZ ⟨_, rfl, rfl, hP, ⟨z22, z23, z24, m_ft, m_fa, ho25, by omega, by omega, by omega, by omega, by omega, by omega⟩, trivial⟩ dX13_digit_43
    · have c15 : ¬ (y9).toInt ≤ (k).toInt := fun h9 => c15 (hq_lei.mpr h9)
      refine lv_aload_n hx hb dX13_digit_32 rfl (lv_at hl 1 rfl) ?_
      refine lv_iconst (v := 3) hx hb dX13_digit_33 (by decide) ?_
      have hl39 : (3 : Int32).toInt = 3 := by decide
      refine hp_callq (hp_runV (As := [.int (3)]) (rest := []) hx hb hml hown hts (t_X13_wrong l D cs B G  V n hP.1 q hR (m) h_m (3) ho_m  (by omega) (by omega) (by omega) (by omega) (by omega) (by omega) (by omega) (by omega) ) hZ ho_m cv_X13_107 rfl rfl ⟨Nat.le_of_ble_eq_true rfl, Nat.le_of_ble_eq_true rfl⟩ rfl hl.1 rfl (Nat.le_of_ble_eq_true rfl) dX13_digit_34 ⟨(Nat.le_of_ble_eq_true rfl), (Nat.le_of_ble_eq_true rfl)⟩) hZ (fun r33 V30 n31 _ _ hw32 hZ => ?_)
      obtain ⟨rfl, hq34, ⟨z36, z37, ho38⟩, hr35⟩ := hw32
      have hP := hP.trans hq34 (by intro g h; simp_all)
      have b40 := hq_rng z36
      have b41 := hq_rng z37
      subst hr35
      refine W.eq (g2 := F0 m 37 ls [.ref (q + 19)]) rfl ?_
      exact hq_athrow hx hb hnx hlocks hZ ⟨rfl, rfl, hP, ⟨m_fr, m_bh, m_hd, z36, z37, ho38, by omega, by omega, by omega, by omega, by omega, by omega⟩⟩ dX13_digit_37
  · have c1 : ¬ (m_hd).toInt = (2 : Int) := fun h9 => c1 (hq_eqi.mpr h9)
    refine lv_aload_n hx hb dX13_digit_8 rfl (lv_at hl 0 rfl) ?_
    refine lv_iconst (v := 1) hx hb dX13_digit_9 (by decide) ?_
    have hl51 : (1 : Int32).toInt = 1 := by decide
    refine hp_callq (hp_runV (As := [.int (1)]) (rest := []) hx hb hml hown hts (t_X13_wrong l D cs B G  V n hP.1 q hR (m) h_m (1) ho_m  (by omega) (by omega) (by omega) (by omega) (by omega) (by omega) (by omega) (by omega) ) hZ ho_m cv_X13_107 rfl rfl ⟨Nat.le_of_ble_eq_true rfl, Nat.le_of_ble_eq_true rfl⟩ rfl hl.1 rfl (Nat.le_of_ble_eq_true rfl) dX13_digit_10 ⟨(Nat.le_of_ble_eq_true rfl), (Nat.le_of_ble_eq_true rfl)⟩) hZ (fun r45 V42 n43 _ _ hw44 hZ => ?_)
    obtain ⟨rfl, hq46, ⟨z48, z49, ho50⟩, hr47⟩ := hw44
    have hP := hP.trans hq46 (by intro g h; simp_all)
    have b52 := hq_rng z48
    have b53 := hq_rng z49
    subst hr47
    refine W.eq (g2 := F0 m 13 ls [.ref (q + 19)]) rfl ?_
    exact hq_athrow hx hb hnx hlocks hZ ⟨rfl, rfl, hP, ⟨m_fr, m_bh, m_hd, z48, z49, ho50, by omega, by omega, by omega, by omega, by omega, by omega⟩⟩ dX13_digit_13

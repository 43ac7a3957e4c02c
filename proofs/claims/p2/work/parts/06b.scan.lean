set_option maxHeartbeats 4000000 in
set_option maxRecDepth 100000 in
theorem t_X13_in (l : Launch) (D : va_G) (cs : Nat → ClassId) (B : Nat) (G : hq_G) (V : hp_V) (n : Nat) (hI : hq_I cs G V) (v : Int64) (lo : Int64) (hi : Int64) : hp_M l yX13_in cX13_in 6 (some .boolean) ({ frames := 1, cells := 0, slots := 0, locals := 21 }) D cs B V n [.long (v), .long (lo), .long (hi)] (hp_QI D cs B (fun r V' n' => n = n' ∧ hq_P cs G (fun _ => false) V V' ∧ ((r.toInt = 1 ∧ lo.toInt ≤ v.toInt ∧ v.toInt ≤ hi.toInt) ∨ (r.toInt = 0 ∧ ¬ (lo.toInt ≤ v.toInt ∧ v.toInt ≤ hi.toInt))))) 0 0 := by
  refine hp_walk (R0 := RX13) (by decide) rfl ?_ (Nat.le_of_ble_eq_true rfl)
  intro p e s m below meth c ls hx hb hr hts hown hlocks hin hml hZ hl
  have hP : hq_P cs G (fun _ => false) V V := hq_P.rf hI
  have hl : lv_has ls 6 [(0, .long (v)), (2, .long (lo)), (4, .long (hi))] := hl
  refine lv_lload_n hx hb dX13_in_0 rfl (lv_at hl 0 rfl) ?_
  refine lv_lload_n hx hb dX13_in_1 rfl (lv_at hl 1 rfl) ?_
  refine W.lcmp hx hb dX13_in_2 ?_
  refine lv_topi (fun y1 ey2 => ?_)
  have b3 := hm_cmp (v) (lo)
  rw [← ey2] at b3
  refine lv_if_lt (tgt := 17) hx hb dX13_in_3 (by decide) (fun c4 => ?_) (fun c4 => ?_)
  · have c4 : (y1).toInt < (0 : Int) := hq_lti.mp c4
    refine lv_iconst (v := 0) hx hb dX13_in_17 (by decide) ?_
    exact hp_zret hx hb hr rfl hlocks hZ ⟨rfl, hP, (Or.inr ⟨by decide, by omega⟩)⟩ dX13_in_18
  · have c4 : ¬ (y1).toInt < (0 : Int) := fun h9 => c4 (hq_lti.mpr h9)
    refine lv_lload_n hx hb dX13_in_6 rfl (lv_at hl 0 rfl) ?_
    refine lv_lload hx hb dX13_in_7 (lv_at hl 2 rfl) ?_
    refine W.lcmp hx hb dX13_in_9 ?_
    refine lv_topi (fun y5 ey6 => ?_)
    have b7 := hm_cmp (v) (hi)
    rw [← ey6] at b7
    refine lv_if_gt (tgt := 17) hx hb dX13_in_10 (by decide) (fun c8 => ?_) (fun c8 => ?_)
    · have c8 : (0 : Int) < (y5).toInt := hq_lti.mp c8
      refine lv_iconst (v := 0) hx hb dX13_in_17 (by decide) ?_
      exact hp_zret hx hb hr rfl hlocks hZ ⟨rfl, hP, (Or.inr ⟨by decide, by omega⟩)⟩ dX13_in_18
    · have c8 : ¬ (0 : Int) < (y5).toInt := fun h9 => c8 (hq_lti.mpr h9)
      refine lv_iconst (v := 1) hx hb dX13_in_13 (by decide) ?_
      refine lv_goto (tgt := 18) hx hb dX13_in_14 (by decide) ?_
      exact hp_zret hx hb hr rfl hlocks hZ ⟨rfl, hP, (Or.inl ⟨by decide, by omega, by omega⟩)⟩ dX13_in_18

set_option maxHeartbeats 4000000 in
set_option maxRecDepth 100000 in
theorem t_X13_isFigure (l : Launch) (D : va_G) (cs : Nat → ClassId) (B : Nat) (G : hq_G) (V : hp_V) (n : Nat) (hI : hq_I cs G V) (k : Int32) : hp_M l yX13_isFigure cX13_isFigure 1 (some .boolean) ({ frames := 1, cells := 0, slots := 0, locals := 21 }) D cs B V n [.int (k)] (hp_QI D cs B (fun r V' n' => n = n' ∧ hq_P cs G (fun _ => false) V V' ∧ (r.toInt = 0 ∨ (r.toInt = 1 ∧ 48 ≤ k.toInt ∧ k.toInt ≤ 57)))) 0 0 := by
  refine hp_walk (R0 := RX13) (by decide) rfl ?_ (Nat.le_of_ble_eq_true rfl)
  intro p e s m below meth c ls hx hb hr hts hown hlocks hin hml hZ hl
  have hP : hq_P cs G (fun _ => false) V V := hq_P.rf hI
  have hl : lv_has ls 1 [(0, .int (k))] := hl
  have hb_k := hq_rng k
  refine lv_iload_n hx hb dX13_isFigure_0 rfl (lv_at hl 0 rfl) ?_
  refine lv_bipush (v := 48) hx hb dX13_isFigure_1 (by decide) ?_
  refine lv_icmp_lt (tgt := 16) hx hb dX13_isFigure_3 (by decide) (fun c1 => ?_) (fun c1 => ?_)
  · have c1 : (k).toInt < (48 : Int) := hq_lti.mp c1
    refine lv_iconst (v := 0) hx hb dX13_isFigure_16 (by decide) ?_
    exact hp_zret hx hb hr rfl hlocks hZ ⟨rfl, hP, (Or.inl (by decide))⟩ dX13_isFigure_17
  · have c1 : ¬ (k).toInt < (48 : Int) := fun h9 => c1 (hq_lti.mpr h9)
    refine lv_iload_n hx hb dX13_isFigure_6 rfl (lv_at hl 0 rfl) ?_
    refine lv_bipush (v := 57) hx hb dX13_isFigure_7 (by decide) ?_
    refine lv_icmp_gt (tgt := 16) hx hb dX13_isFigure_9 (by decide) (fun c2 => ?_) (fun c2 => ?_)
    · have c2 : (57 : Int) < (k).toInt := hq_lti.mp c2
      refine lv_iconst (v := 0) hx hb dX13_isFigure_16 (by decide) ?_
      exact hp_zret hx hb hr rfl hlocks hZ ⟨rfl, hP, (Or.inl (by decide))⟩ dX13_isFigure_17
    · have c2 : ¬ (57 : Int) < (k).toInt := fun h9 => c2 (hq_lti.mpr h9)
      refine lv_iconst (v := 1) hx hb dX13_isFigure_12 (by decide) ?_
      refine lv_goto (tgt := 17) hx hb dX13_isFigure_13 (by decide) ?_
      exact hp_zret hx hb hr rfl hlocks hZ ⟨rfl, hP, (Or.inr ⟨by decide, by omega, by omega⟩)⟩ dX13_isFigure_17

set_option maxHeartbeats 4000000 in
set_option maxRecDepth 100000 in
theorem t_X13_isSmall (l : Launch) (D : va_G) (cs : Nat → ClassId) (B : Nat) (G : hq_G) (V : hp_V) (n : Nat) (hI : hq_I cs G V) (k : Int32) : hp_M l yX13_isSmall cX13_isSmall 1 (some .boolean) ({ frames := 1, cells := 0, slots := 0, locals := 21 }) D cs B V n [.int (k)] (hp_QI D cs B (fun r V' n' => n = n' ∧ hq_P cs G (fun _ => false) V V' ∧ (r.toInt = 0 ∨ (r.toInt = 1 ∧ 97 ≤ k.toInt ∧ k.toInt ≤ 122)))) 0 0 := by
  refine hp_walk (R0 := RX13) (by decide) rfl ?_ (Nat.le_of_ble_eq_true rfl)
  intro p e s m below meth c ls hx hb hr hts hown hlocks hin hml hZ hl
  have hP : hq_P cs G (fun _ => false) V V := hq_P.rf hI
  have hl : lv_has ls 1 [(0, .int (k))] := hl
  have hb_k := hq_rng k
  refine lv_iload_n hx hb dX13_isSmall_0 rfl (lv_at hl 0 rfl) ?_
  refine lv_bipush (v := 97) hx hb dX13_isSmall_1 (by decide) ?_
  refine lv_icmp_lt (tgt := 16) hx hb dX13_isSmall_3 (by decide) (fun c1 => ?_) (fun c1 => ?_)
  · have c1 : (k).toInt < (97 : Int) := hq_lti.mp c1
    refine lv_iconst (v := 0) hx hb dX13_isSmall_16 (by decide) ?_
    exact hp_zret hx hb hr rfl hlocks hZ ⟨rfl, hP, (Or.inl (by decide))⟩ dX13_isSmall_17
  · have c1 : ¬ (k).toInt < (97 : Int) := fun h9 => c1 (hq_lti.mpr h9)
    refine lv_iload_n hx hb dX13_isSmall_6 rfl (lv_at hl 0 rfl) ?_
    refine lv_bipush (v := 122) hx hb dX13_isSmall_7 (by decide) ?_
    refine lv_icmp_gt (tgt := 16) hx hb dX13_isSmall_9 (by decide) (fun c2 => ?_) (fun c2 => ?_)
    · have c2 : (122 : Int) < (k).toInt := hq_lti.mp c2
      refine lv_iconst (v := 0) hx hb dX13_isSmall_16 (by decide) ?_
      exact hp_zret hx hb hr rfl hlocks hZ ⟨rfl, hP, (Or.inl (by decide))⟩ dX13_isSmall_17
    · have c2 : ¬ (122 : Int) < (k).toInt := fun h9 => c2 (hq_lti.mpr h9)
      refine lv_iconst (v := 1) hx hb dX13_isSmall_12 (by decide) ?_
      refine lv_goto (tgt := 17) hx hb dX13_isSmall_13 (by decide) ?_
      exact hp_zret hx hb hr rfl hlocks hZ ⟨rfl, hP, (Or.inr ⟨by decide, by omega, by omega⟩)⟩ dX13_isSmall_17

set_option maxHeartbeats 4000000 in
set_option maxRecDepth 100000 in
theorem t_X13_wrong (l : Launch) (D : va_G) (cs : Nat → ClassId) (B : Nat) (G : hq_G) (V : hp_V) (n : Nat) (hI : hq_I cs G V) (q : Nat) (hR : hq_RT G q) (mo : Nat) (h_mo : G mo = some (24, 0, 0, 0)) (k : Int32) {m_tp m_sz m_fr m_bh m_hd m_ft m_fa m_le m_fo m_as m_fd m_bc m_bg m_bs m_be m_b0 m_b1 m_cm m_hc : Int32} (ho_mo : V mo = some (.inr (13, hm_o q (m_tp) (m_sz) (m_fr) (m_bh) (m_hd) (m_ft) (m_fa) (m_le) (m_fo) (m_as) (m_fd) (m_bc) (m_bg) (m_bs) (m_be) (m_b0) (m_b1) (m_cm) (m_hc)))) (hi_mo0 : 0 ≤ m_tp.toInt ∧ m_tp.toInt ≤ 4000) (hi_mo1 : 0 ≤ m_sz.toInt ∧ m_sz.toInt ≤ 4000) (hi_mo2 : 0 ≤ m_le.toInt ∧ m_le.toInt ≤ 276) (hi_mo3 : 0 ≤ m_fo.toInt ∧ m_fo.toInt ≤ 4) (hi_mo4 : 0 ≤ m_as.toInt ∧ m_as.toInt ≤ 4000) (hi_mo5 : 0 ≤ m_fd.toInt ∧ m_fd.toInt ≤ 900) (hi_mo6 : 0 ≤ m_cm.toInt ∧ m_cm.toInt ≤ 2) (hi_mo7 : 0 ≤ m_hc.toInt ∧ m_hc.toInt ≤ 1) : hp_M l yX13_wrong cX13_wrong 2 (some (.object "VerbSchoolModel$Stop")) ({ frames := 1, cells := 0, slots := 0, locals := 21 }) D cs B V n [.ref (mo), .int (k)] (hp_QR D cs B (fun r V' n' => n = n' ∧ hq_P cs G (fun g => g.1 == 1) V V' ∧ (∃ (m_ft1 : Int32) (m_fa1 : Int32), V' mo = some (.inr (13, hm_o q (m_tp) (m_sz) (m_fr) (m_bh) (m_hd) (m_ft1) (m_fa1) (m_le) (m_fo) (m_as) (m_fd) (m_bc) (m_bg) (m_bs) (m_be) (m_b0) (m_b1) (m_cm) (m_hc)))) ∧ (r = some (q + 19)))) 0 0 := by
  refine hp_walk (R0 := RX13) (by decide) rfl ?_ (Nat.le_of_ble_eq_true rfl)
  intro p e s m below meth c ls hx hb hr hts hown hlocks hin hml hZ hl
  have hP : hq_P cs G (fun g => g.1 == 1) V V := hq_P.rf hI
  have hl : lv_has ls 2 [(0, .ref (mo)), (1, .int (k))] := hl
  have hb_k := hq_rng k
  have hb_m_tp := hq_rng m_tp
  have hb_m_sz := hq_rng m_sz
  have hb_m_fr := hq_rng m_fr
  have hb_m_bh := hq_rng m_bh
  have hb_m_hd := hq_rng m_hd
  have hb_m_ft := hq_rng m_ft
  have hb_m_fa := hq_rng m_fa
  have hb_m_le := hq_rng m_le
  have hb_m_fo := hq_rng m_fo
  have hb_m_as := hq_rng m_as
  have hb_m_fd := hq_rng m_fd
  have hb_m_bc := hq_rng m_bc
  have hb_m_bg := hq_rng m_bg
  have hb_m_bs := hq_rng m_bs
  have hb_m_be := hq_rng m_be
  have hb_m_b0 := hq_rng m_b0
  have hb_m_b1 := hq_rng m_b1
  have hb_m_cm := hq_rng m_cm
  have hb_m_hc := hq_rng m_hc
  refine lv_aload_n hx hb dX13_wrong_0 rfl (lv_at hl 0 rfl) ?_
  refine lv_iload_n hx hb dX13_wrong_1 rfl (lv_at hl 1 rfl) ?_
  refine hp_put hx hb hts hown hZ ho_mo fp_X13_56 rfl rfl (Nat.le_of_ble_eq_true rfl) dX13_wrong_2 (fun V1 _ _ e2 o3 hZ => ?_)
  have e2 : V1 (mo) = some (.inr (13, hm_o q (m_tp) (m_sz) (m_fr) (m_bh) (m_hd) (k) (m_fa) (m_le) (m_fo) (m_as) (m_fd) (m_bc) (m_bg) (m_bs) (m_be) (m_b0) (m_b1) (m_cm) (m_hc))) := e2
  have hP := hP.put h_mo e2 o3 (trivial) rfl
  refine lv_aload_n hx hb dX13_wrong_5 rfl (lv_at hl 0 rfl) ?_
  refine lv_aload_n hx hb dX13_wrong_6 rfl (lv_at hl 0 rfl) ?_
  refine hp_get (v := .int (m_fr)) hx hb hts hown hZ e2 fl_X13_60 rfl dX13_wrong_7 ?_
  refine hp_put hx hb hts hown hZ e2 fp_X13_63 rfl rfl (Nat.le_of_ble_eq_true rfl) dX13_wrong_10 (fun V4 _ _ e5 o6 hZ => ?_)
  have e5 : V4 (mo) = some (.inr (13, hm_o q (m_tp) (m_sz) (m_fr) (m_bh) (m_hd) (k) (m_fr) (m_le) (m_fo) (m_as) (m_fd) (m_bc) (m_bg) (m_bs) (m_be) (m_b0) (m_b1) (m_cm) (m_hc))) := e5
  have hP := hP.put h_mo e5 o6 (trivial) rfl
  refine lv_aload_n hx hb dX13_wrong_13 rfl (lv_at hl 0 rfl) ?_
  refine hp_get (v := .ref (q + 19)) hx hb hts hown hZ e5 fl_X13_66 rfl dX13_wrong_14 ?_
  exact hp_aret (r := some (q + 19)) hx hb hr (Or.inl ⟨_, rfl⟩) hlocks hZ ⟨rfl, hP, ⟨k, m_fr, e5⟩, rfl⟩ dX13_wrong_17

set_option maxHeartbeats 4000000 in
set_option maxRecDepth 100000 in
theorem t_X13_byteAt (l : Launch) (D : va_G) (cs : Nat → ClassId) (B : Nat) (G : hq_G) (V : hp_V) (n : Nat) (hI : hq_I cs G V) (q : Nat) (hR : hq_RT G q) (mo : Nat) (h_mo : G mo = some (24, 0, 0, 0)) (k : Int32) {m_tp m_sz m_fr m_bh m_hd m_ft m_fa m_le m_fo m_as m_fd m_bc m_bg m_bs m_be m_b0 m_b1 m_cm m_hc : Int32} (ho_mo : V mo = some (.inr (13, hm_o q (m_tp) (m_sz) (m_fr) (m_bh) (m_hd) (m_ft) (m_fa) (m_le) (m_fo) (m_as) (m_fd) (m_bc) (m_bg) (m_bs) (m_be) (m_b0) (m_b1) (m_cm) (m_hc)))) (hi_mo0 : 0 ≤ m_tp.toInt ∧ m_tp.toInt ≤ 4000) (hi_mo1 : 0 ≤ m_sz.toInt ∧ m_sz.toInt ≤ 4000) (hi_mo2 : 0 ≤ m_le.toInt ∧ m_le.toInt ≤ 276) (hi_mo3 : 0 ≤ m_fo.toInt ∧ m_fo.toInt ≤ 4) (hi_mo4 : 0 ≤ m_as.toInt ∧ m_as.toInt ≤ 4000) (hi_mo5 : 0 ≤ m_fd.toInt ∧ m_fd.toInt ≤ 900) (hi_mo6 : 0 ≤ m_cm.toInt ∧ m_cm.toInt ≤ 2) (hi_mo7 : 0 ≤ m_hc.toInt ∧ m_hc.toInt ≤ 1) (hk0 : 0 ≤ k.toInt) : hp_M l yX13_byteAt cX13_byteAt 2 (some .int) ({ frames := 1, cells := 0, slots := 0, locals := 21 }) D cs B V n [.ref (mo), .int (k)] (hp_QI D cs B (fun r V' n' => n = n' ∧ hq_P cs G (fun _ => false) V V' ∧ (V' mo = some (.inr (13, hm_o q (m_tp) (m_sz) (m_fr) (m_bh) (m_hd) (m_ft) (m_fa) (m_le) (m_fo) (m_as) (m_fd) (m_bc) (m_bg) (m_bs) (m_be) (m_b0) (m_b1) (m_cm) (m_hc)))) ∧ (r.toInt = 0 ∨ k.toInt < m_sz.toInt))) 0 0 := by
  refine hp_walk (R0 := RX13) (by decide) rfl ?_ (Nat.le_of_ble_eq_true rfl)
  intro p e s m below meth c ls hx hb hr hts hown hlocks hin hml hZ hl
  have hP : hq_P cs G (fun _ => false) V V := hq_P.rf hI
  have hl : lv_has ls 2 [(0, .ref (mo)), (1, .int (k))] := hl
  have hb_k := hq_rng k
  have hb_m_tp := hq_rng m_tp
  have hb_m_sz := hq_rng m_sz
  have hb_m_fr := hq_rng m_fr
  have hb_m_bh := hq_rng m_bh
  have hb_m_hd := hq_rng m_hd
  have hb_m_ft := hq_rng m_ft
  have hb_m_fa := hq_rng m_fa
  have hb_m_le := hq_rng m_le
  have hb_m_fo := hq_rng m_fo
  have hb_m_as := hq_rng m_as
  have hb_m_fd := hq_rng m_fd
  have hb_m_bc := hq_rng m_bc
  have hb_m_bg := hq_rng m_bg
  have hb_m_bs := hq_rng m_bs
  have hb_m_be := hq_rng m_be
  have hb_m_b0 := hq_rng m_b0
  have hb_m_b1 := hq_rng m_b1
  have hb_m_cm := hq_rng m_cm
  have hb_m_hc := hq_rng m_hc
  refine lv_iload_n hx hb dX13_byteAt_0 rfl (lv_at hl 1 rfl) ?_
  refine lv_aload_n hx hb dX13_byteAt_1 rfl (lv_at hl 0 rfl) ?_
  refine hp_get (v := .int (m_sz)) hx hb hts hown hZ ho_mo fl_X13_70 rfl dX13_byteAt_2 ?_
  refine lv_icmp_ge (tgt := 21) hx hb dX13_byteAt_5 (by decide) (fun c1 => ?_) (fun c1 => ?_)
  · have c1 : (m_sz).toInt ≤ (k).toInt := hq_lei.mp c1
    refine lv_iconst (v := 0) hx hb dX13_byteAt_21 (by decide) ?_
    exact hp_iret hx hb hr hlocks hZ ⟨rfl, hP, ho_mo, (Or.inl (by decide))⟩ dX13_byteAt_22
  · have c1 : ¬ (m_sz).toInt ≤ (k).toInt := fun h9 => c1 (hq_lei.mpr h9)
    refine lv_aload_n hx hb dX13_byteAt_8 rfl (lv_at hl 0 rfl) ?_
    refine hp_get (v := .ref (q + 20)) hx hb hts hown hZ ho_mo fl_X13_73 rfl dX13_byteAt_9 ?_
    refine lv_iload_n hx hb dX13_byteAt_12 rfl (lv_at hl 1 rfl) ?_
    obtain ⟨hN4, g3, eV2⟩ := hq_o20 hP.1 (hr_20 hR)
    refine hp_bald hx hb hZ eV2 (hq_in (by omega) (by omega)) dX13_byteAt_13 ?_
    refine lv_topi (fun y6 ey7 => ?_)
    have b8 := hq_rng y6
    refine lv_sipush (v := 255) hx hb dX13_byteAt_14 (by decide) ?_
    refine lv_iand hx hb dX13_byteAt_17 ?_
    refine lv_topi (fun y9 ey10 => ?_)
    have b11 := hq_rng y9
    refine lv_goto (tgt := 22) hx hb dX13_byteAt_18 (by decide) ?_
    exact hp_iret hx hb hr hlocks hZ ⟨rfl, hP, ho_mo, (by omega)⟩ dX13_byteAt_22

set_option maxHeartbeats 4000000 in
set_option maxRecDepth 100000 in
theorem t_X13_scan (l : Launch) (D : va_G) (cs : Nat → ClassId) (B : Nat) (G : hq_G) (V : hp_V) (n : Nat) (hI : hq_I cs G V) (q : Nat) (hR : hq_RT G q) (mo : Nat) (h_mo : G mo = some (24, 0, 0, 0)) {m_tp m_sz m_fr m_bh m_hd m_ft m_fa m_le m_fo m_as m_fd m_bc m_bg m_bs m_be m_b0 m_b1 m_cm m_hc : Int32} (ho_mo : V mo = some (.inr (13, hm_o q (m_tp) (m_sz) (m_fr) (m_bh) (m_hd) (m_ft) (m_fa) (m_le) (m_fo) (m_as) (m_fd) (m_bc) (m_bg) (m_bs) (m_be) (m_b0) (m_b1) (m_cm) (m_hc)))) (hi_mo0 : 0 ≤ m_tp.toInt ∧ m_tp.toInt ≤ 4000) (hi_mo1 : 0 ≤ m_sz.toInt ∧ m_sz.toInt ≤ 4000) (hi_mo2 : 0 ≤ m_le.toInt ∧ m_le.toInt ≤ 276) (hi_mo3 : 0 ≤ m_fo.toInt ∧ m_fo.toInt ≤ 4) (hi_mo4 : 0 ≤ m_as.toInt ∧ m_as.toInt ≤ 4000) (hi_mo5 : 0 ≤ m_fd.toInt ∧ m_fd.toInt ≤ 900) (hi_mo6 : 0 ≤ m_cm.toInt ∧ m_cm.toInt ≤ 2) (hi_mo7 : 0 ≤ m_hc.toInt ∧ m_hc.toInt ≤ 1) (hs0 : 0 ≤ m_bh.toInt) (hs1 : m_bh.toInt ≤ m_sz.toInt) : hp_M l yX13_scan cX13_scan 3 none ({ frames := 2, cells := 0, slots := 0, locals := 42 }) D cs B V n [.ref (mo)] (hp_QV D cs B (fun V' n' => n = n' ∧ hq_P cs G (fun g => g.1 == 1) V V' ∧ (∃ (m_fr1 : Int32) (m_bh1 : Int32) (m_hd1 : Int32), V' mo = some (.inr (13, hm_o q (m_tp) (m_sz) (m_fr1) (m_bh1) (m_hd1) (m_ft) (m_fa) (m_le) (m_fo) (m_as) (m_fd) (m_bc) (m_bg) (m_bs) (m_be) (m_b0) (m_b1) (m_cm) (m_hc))) ∧ (hm_SC m_sz m_fr1 m_bh1 m_hd1)))) 0 0 := by
  refine hp_walk (R0 := RX13) (by decide) rfl ?_ (Nat.le_of_ble_eq_true rfl)
  intro p e s m below meth c ls hx hb hr hts hown hlocks hin hml hZ hl
  have hP : hq_P cs G (fun g => g.1 == 1) V V := hq_P.rf hI
  have hl : lv_has ls 3 [(0, .ref (mo))] := hl
  have hb_m_tp := hq_rng m_tp
  have hb_m_sz := hq_rng m_sz
  have hb_m_fr := hq_rng m_fr
  have hb_m_bh := hq_rng m_bh
  have hb_m_hd := hq_rng m_hd
  have hb_m_ft := hq_rng m_ft
  have hb_m_fa := hq_rng m_fa
  have hb_m_le := hq_rng m_le
  have hb_m_fo := hq_rng m_fo
  have hb_m_as := hq_rng m_as
  have hb_m_fd := hq_rng m_fd
  have hb_m_bc := hq_rng m_bc
  have hb_m_bg := hq_rng m_bg
  have hb_m_bs := hq_rng m_bs
  have hb_m_be := hq_rng m_be
  have hb_m_b0 := hq_rng m_b0
  have hb_m_b1 := hq_rng m_b1
  have hb_m_cm := hq_rng m_cm
  have hb_m_hc := hq_rng m_hc
  suffices lp0 : ∀ (k9 : Nat) (V9 : hp_V) (H9 : Heap) (locs9 : List Loc) (ls : Array Slot)  (bh9 : Int32), (5000 - bh9.toInt).toNat = k9 → hp_Z D cs B s V9 H9 n locs9 → hq_P cs G (fun g => g.1 == 1) V V9 → V9 (mo) = some (.inr (13, hm_o q (m_tp) (m_sz) (m_fr) (bh9) (m_hd) (m_ft) (m_fa) (m_le) (m_fo) (m_as) (m_fd) (m_bc) (m_bg) (m_bs) (m_be) (m_b0) (m_b1) (m_cm) (m_hc))) → 0 ≤ bh9.toInt → bh9.toInt ≤ m_sz.toInt → lv_has ls 3 [(0, .ref (mo))] → W p l e ({ frames := 2, cells := 0, slots := 0, locals := 42 }) s m ([.ref (mo)] : List Value).toArray below meth c H9 locs9 0 0 (MQ below (hp_QV D cs B (fun V' n' => n = n' ∧ hq_P cs G (fun g => g.1 == 1) V V' ∧ (∃ (m_fr1 : Int32) (m_bh1 : Int32) (m_hd1 : Int32), V' mo = some (.inr (13, hm_o q (m_tp) (m_sz) (m_fr1) (m_bh1) (m_hd1) (m_ft) (m_fa) (m_le) (m_fo) (m_as) (m_fd) (m_bc) (m_bg) (m_bs) (m_be) (m_b0) (m_b1) (m_cm) (m_hc))) ∧ (hm_SC m_sz m_fr1 m_bh1 m_hd1)))) ([.ref (mo)] : List Value).toArray s 0 0 (hp_F B)) (F0 m 0 ls []) from lp0 _ _ _ _ ls  (m_bh) rfl hZ hP ho_mo (by omega) (by omega) (lv_sub hl [0] rfl)
  intro k9
  induction k9 using Nat.strongRecOn with
  | _ k9 ih0 =>
    intro V9 H9 locs9 ls  bh9 hk0 hZ hP ho1 hv2 hv3 hl
    have hb_bh9 := hq_rng bh9
    have hP_0 := hP
    refine lv_aload_n hx hb dX13_scan_0 rfl (lv_at hl 0 rfl) ?_
    refine hp_get (v := .int (bh9)) hx hb hts hown hZ ho1 fl_X13_76 rfl dX13_scan_1 ?_
    refine lv_aload_n hx hb dX13_scan_4 rfl (lv_at hl 0 rfl) ?_
    refine hp_get (v := .int (m_sz)) hx hb hts hown hZ ho1 fl_X13_70 rfl dX13_scan_5 ?_
    refine lv_icmp_ge (tgt := 52) hx hb dX13_scan_8 (by decide) (fun c4 => ?_) (fun c4 => ?_)
    · have c4 : (m_sz).toInt ≤ (bh9).toInt := hq_lei.mp c4
      refine lv_aload_n hx hb dX13_scan_52 rfl (lv_at hl 0 rfl) ?_
      refine lv_aload_n hx hb dX13_scan_53 rfl (lv_at hl 0 rfl) ?_
      refine hp_get (v := .int (bh9)) hx hb hts hown hZ ho1 fl_X13_76 rfl dX13_scan_54 ?_
      refine hp_put hx hb hts hown hZ ho1 fp_X13_60 rfl rfl (Nat.le_of_ble_eq_true rfl) dX13_scan_57 (fun V5 _ _ e6 o7 hZ => ?_)
      have e6 : V5 (mo) = some (.inr (13, hm_o q (m_tp) (m_sz) (bh9) (bh9) (m_hd) (m_ft) (m_fa) (m_le) (m_fo) (m_as) (m_fd) (m_bc) (m_bg) (m_bs) (m_be) (m_b0) (m_b1) (m_cm) (m_hc))) := e6
      have hP := hP.put h_mo e6 o7 (trivial) rfl
      refine lv_aload_n hx hb dX13_scan_60 rfl (lv_at hl 0 rfl) ?_
      refine lv_aload_n hx hb dX13_scan_61 rfl (lv_at hl 0 rfl) ?_
      refine hp_get (v := .int (bh9)) hx hb hts hown hZ e6 fl_X13_60 rfl dX13_scan_62 ?_
      refine hp_calli (hp_runV (As := [.int (bh9)]) (rest := []) hx hb hml hown hts (t_X13_byteAt l D cs B G  V5 n hP.1 q hR (mo) h_mo (bh9) e6  (by omega) (by omega) (by omega) (by omega) (by omega) (by omega) (by omega) (by omega) (by omega)) hZ e6 cv_X13_79 rfl rfl ⟨Nat.le_of_ble_eq_true rfl, Nat.le_of_ble_eq_true rfl⟩ rfl hl.1 rfl (Nat.le_of_ble_eq_true rfl) dX13_scan_65 ⟨(Nat.le_of_ble_eq_true rfl), (Nat.le_of_ble_eq_true rfl)⟩) hZ (fun r11 V8 n9 _ _ hw10 hZ => ?_)
      obtain ⟨rfl, hq12, ho14, hr13⟩ := hw10
      have hP := hP.trans hq12 (fun _ _ => rfl)
      have b15 := hq_rng r11
      refine lv_istore_n (lv' := [(1, .int (r11)), (0, .ref (mo))]) hx hb dX13_scan_68 rfl hl (by decide) rfl (fun ls hl => ?_)
      refine lv_aload_n hx hb dX13_scan_69 rfl (lv_at hl 1 rfl) ?_
      refine hp_get (v := .int (bh9)) hx hb hts hown hZ ho14 fl_X13_60 rfl dX13_scan_70 ?_
      refine lv_aload_n hx hb dX13_scan_73 rfl (lv_at hl 1 rfl) ?_
      refine hp_get (v := .int (m_sz)) hx hb hts hown hZ ho14 fl_X13_70 rfl dX13_scan_74 ?_
      refine lv_icmp_ne (tgt := 86) hx hb dX13_scan_77 (by decide) (fun c16 => ?_) (fun c16 => ?_)
      · have c16 : ¬ (bh9).toInt = (m_sz).toInt := fun h9 => c16 (hq_eqi.mpr h9)
        refine lv_aload_n hx hb dX13_scan_86 rfl (lv_at hl 1 rfl) ?_
        refine lv_dup hx hb dX13_scan_87 rfl ?_
        refine hp_get (v := .int (bh9)) hx hb hts hown hZ ho14 fl_X13_76 rfl dX13_scan_88 ?_
        refine lv_iconst (v := 1) hx hb dX13_scan_91 (by decide) ?_
        refine lv_iadd hx hb dX13_scan_92 ?_
        refine lv_topi (fun y17 ey18 => ?_)
        obtain ⟨k19, hk20, b21, b22⟩ := hq_add (bh9) (1)
        rw [← ey18] at hk20 b21 b22
        have hk20 : (y17).toInt = (bh9).toInt + (1 : Int) + k19 * 4294967296 := hk20
        obtain rfl : k19 = 0 := by omega
        refine hp_put hx hb hts hown hZ ho14 fp_X13_76 rfl rfl (Nat.le_of_ble_eq_true rfl) dX13_scan_93 (fun V23 _ _ e24 o25 hZ => ?_)
        have e24 : V23 (mo) = some (.inr (13, hm_o q (m_tp) (m_sz) (bh9) (y17) (m_hd) (m_ft) (m_fa) (m_le) (m_fo) (m_as) (m_fd) (m_bc) (m_bg) (m_bs) (m_be) (m_b0) (m_b1) (m_cm) (m_hc))) := e24
        have hP := hP.put h_mo e24 o25 (trivial) rfl
        refine lv_iload_n hx hb dX13_scan_96 rfl (lv_at hl 0 rfl) ?_
        refine hp_calli (hp_runS (As := [.int (r11)]) (rest := []) hx hb hml hown hts (t_X13_isSmall l D cs B G  V23 n hP.1  (r11) ) hZ cv_X13_86 rfl rfl ⟨Nat.le_of_ble_eq_true rfl, Nat.le_of_ble_eq_true rfl⟩ rfl hl.1 rfl (Nat.le_of_ble_eq_true rfl) dX13_scan_97 ⟨(Nat.le_of_ble_eq_true rfl), (Nat.le_of_ble_eq_true rfl)⟩) hZ (fun r29 V26 n27 _ _ hw28 hZ => ?_)
        obtain ⟨rfl, hq30, hr31⟩ := hw28
        have hP := hP.trans hq30 (fun _ _ => rfl)
        have b32 := hq_rng r29
        refine lv_if_eq (tgt := 156) hx hb dX13_scan_100 (by decide) (fun c33 => ?_) (fun c33 => ?_)
        · have c33 : (r29).toInt = (0 : Int) := hq_eqi.mp c33
          refine lv_iload_n hx hb dX13_scan_156 rfl (lv_at hl 0 rfl) ?_
          refine lv_bipush (v := 39) hx hb dX13_scan_157 (by decide) ?_
          refine lv_icmp_ne (tgt := 248) hx hb dX13_scan_159 (by decide) (fun c34 => ?_) (fun c34 => ?_)
          · have c34 : ¬ (r11).toInt = (39 : Int) := fun h9 => c34 (hq_eqi.mpr h9)
            refine lv_iload_n hx hb dX13_scan_248 rfl (lv_at hl 0 rfl) ?_
            refine hp_calli (hp_runS (As := [.int (r11)]) (rest := []) hx hb hml hown hts (t_X13_isFigure l D cs B G  V26 n hP.1  (r11) ) hZ cv_X13_90 rfl rfl ⟨Nat.le_of_ble_eq_true rfl, Nat.le_of_ble_eq_true rfl⟩ rfl hl.1 rfl (Nat.le_of_ble_eq_true rfl) dX13_scan_249 ⟨(Nat.le_of_ble_eq_true rfl), (Nat.le_of_ble_eq_true rfl)⟩) hZ (fun r38 V35 n36 _ _ hw37 hZ => ?_)
            obtain ⟨rfl, hq39, hr40⟩ := hw37
            have hP := hP.trans hq39 (fun _ _ => rfl)
            have b41 := hq_rng r38
            refine lv_istore_n (lv' := [(2, .int (r38)), (1, .int (r11)), (0, .ref (mo))]) hx hb dX13_scan_252 rfl hl (by decide) rfl (fun ls hl => ?_)
            have fx42 : V35 (mo) = some (.inr (13, hm_o q (m_tp) (m_sz) (bh9) (y17) (m_hd) (m_ft) (m_fa) (m_le) (m_fo) (m_as) (m_fd) (m_bc) (m_bg) (m_bs) (m_be) (m_b0) (m_b1) (m_cm) (m_hc))) := (hq39.2 (mo) _ h_mo rfl).trans ((hq30.2 (mo) _ h_mo rfl).trans (e24))
            suffices lp253 : ∀ (k9 : Nat) (V9 : hp_V) (H9 : Heap) (locs9 : List Loc) (ls : Array Slot)  (bh8 : Int32), (5000 - bh8.toInt).toNat = k9 → hp_Z D cs B s V9 H9 n locs9 → hq_P cs G (fun g => g.1 == 1) V V9 → V9 (mo) = some (.inr (13, hm_o q (m_tp) (m_sz) (bh9) (bh8) (m_hd) (m_ft) (m_fa) (m_le) (m_fo) (m_as) (m_fd) (m_bc) (m_bg) (m_bs) (m_be) (m_b0) (m_b1) (m_cm) (m_hc))) → bh9.toInt + 1 ≤ bh8.toInt → bh8.toInt ≤ m_sz.toInt → lv_has ls 3 [(2, .int (r38)), (1, .int (r11)), (0, .ref (mo))] → W p l e ({ frames := 2, cells := 0, slots := 0, locals := 42 }) s m ([.ref (mo)] : List Value).toArray below meth c H9 locs9 0 0 (MQ below (hp_QV D cs B (fun V' n' => n = n' ∧ hq_P cs G (fun g => g.1 == 1) V V' ∧ (∃ (m_fr1 : Int32) (m_bh1 : Int32) (m_hd1 : Int32), V' mo = some (.inr (13, hm_o q (m_tp) (m_sz) (m_fr1) (m_bh1) (m_hd1) (m_ft) (m_fa) (m_le) (m_fo) (m_as) (m_fd) (m_bc) (m_bg) (m_bs) (m_be) (m_b0) (m_b1) (m_cm) (m_hc))) ∧ (hm_SC m_sz m_fr1 m_bh1 m_hd1)))) ([.ref (mo)] : List Value).toArray s 0 0 (hp_F B)) (F0 m 253 ls []) from lp253 _ _ _ _ ls  (y17) rfl hZ hP fx42 (by omega) (by omega) (lv_sub hl [0, 1, 2] rfl)
            intro k9
            induction k9 using Nat.strongRecOn with
            | _ k9 ih253 =>
              intro V9 H9 locs9 ls  bh8 hk253 hZ hP ho43 hv44 hv45 hl
              have hb_bh8 := hq_rng bh8
              have hP_253 := hP
              refine lv_iload_n hx hb dX13_scan_253 rfl (lv_at hl 0 rfl) ?_
              refine lv_if_eq (tgt := 284) hx hb dX13_scan_254 (by decide) (fun c46 => ?_) (fun c46 => ?_)
              · have c46 : (r38).toInt = (0 : Int) := hq_eqi.mp c46
                refine lv_aload_n hx hb dX13_scan_284 rfl (lv_at hl 2 rfl) ?_
                refine lv_iload_n hx hb dX13_scan_285 rfl (lv_at hl 0 rfl) ?_
                refine lv_if_eq (tgt := 306) hx hb dX13_scan_286 (by decide) (fun c47 => ?_) (fun c47 => ?_)
                · have c47 : (r38).toInt = (0 : Int) := hq_eqi.mp c47
                  refine lv_iload_n hx hb dX13_scan_306 rfl (lv_at hl 1 rfl) ?_
                  refine lv_bipush (v := 59) hx hb dX13_scan_307 (by decide) ?_
                  refine lv_icmp_ne (tgt := 316) hx hb dX13_scan_309 (by decide) (fun c48 => ?_) (fun c48 => ?_)
                  · have c48 : ¬ (r11).toInt = (59 : Int) := fun h9 => c48 (hq_eqi.mpr h9)
                    refine lv_iconst (v := 5) hx hb dX13_scan_316 (by decide) ?_
                    refine hp_put hx hb hts hown hZ ho43 fp_X13_83 rfl rfl (Nat.le_of_ble_eq_true rfl) dX13_scan_317 (fun V49 _ _ e50 o51 hZ => ?_)
                    have e50 : V49 (mo) = some (.inr (13, hm_o q (m_tp) (m_sz) (bh9) (bh8) (5) (m_ft) (m_fa) (m_le) (m_fo) (m_as) (m_fd) (m_bc) (m_bg) (m_bs) (m_be) (m_b0) (m_b1) (m_cm) (m_hc))) := e50
                    have hP := hP.put h_mo e50 o51 (trivial) rfl
                    have hl52 : (5 : Int32).toInt = 5 := by decide
                    exact hp_vret hx hb hr hlocks hZ ⟨rfl, hP, ⟨bh9, bh8, 5, e50, ⟨by omega, by omega, by omega, by omega, by omega, by omega⟩⟩⟩ dX13_scan_320
                  · have c48 : (r11).toInt = (59 : Int) := hq_eqi.mp c48
                    refine lv_iconst (v := 4) hx hb dX13_scan_312 (by decide) ?_
                    refine lv_goto (tgt := 317) hx hb dX13_scan_313 (by decide) ?_
                    refine hp_put hx hb hts hown hZ ho43 fp_X13_83 rfl rfl (Nat.le_of_ble_eq_true rfl) dX13_scan_317 (fun V53 _ _ e54 o55 hZ => ?_)
                    have e54 : V53 (mo) = some (.inr (13, hm_o q (m_tp) (m_sz) (bh9) (bh8) (4) (m_ft) (m_fa) (m_le) (m_fo) (m_as) (m_fd) (m_bc) (m_bg) (m_bs) (m_be) (m_b0) (m_b1) (m_cm) (m_hc))) := e54
                    have hP := hP.put h_mo e54 o55 (trivial) rfl
                    have hl56 : (4 : Int32).toInt = 4 := by decide
                    exact hp_vret hx hb hr hlocks hZ ⟨rfl, hP, ⟨bh9, bh8, 4, e54, ⟨by omega, by omega, by omega, by omega, by omega, by omega⟩⟩⟩ dX13_scan_320
                · have c47 : ¬ (r38).toInt = (0 : Int) := fun h9 => c47 (hq_eqi.mpr h9)
                  refine lv_aload_n hx hb dX13_scan_289 rfl (lv_at hl 2 rfl) ?_
                  refine hp_get (v := .int (bh8)) hx hb hts hown hZ ho43 fl_X13_76 rfl dX13_scan_290 ?_
                  refine lv_aload_n hx hb dX13_scan_293 rfl (lv_at hl 2 rfl) ?_
                  refine hp_get (v := .int (bh9)) hx hb hts hown hZ ho43 fl_X13_60 rfl dX13_scan_294 ?_
                  refine lv_isub hx hb dX13_scan_297 ?_
                  refine lv_topi (fun y57 ey58 => ?_)
                  obtain ⟨k59, hk60, b61, b62⟩ := hq_sub (bh8) (bh9)
                  rw [← ey58] at hk60 b61 b62
                  have hk60 : (y57).toInt = (bh8).toInt - (bh9).toInt + k59 * 4294967296 := hk60
                  obtain rfl : k59 = 0 := by omega
                  refine lv_iconst (v := 1) hx hb dX13_scan_298 (by decide) ?_
                  refine lv_icmp_ne (tgt := 306) hx hb dX13_scan_299 (by decide) (fun c63 => ?_) (fun c63 => ?_)
                  · have c63 : ¬ (y57).toInt = (1 : Int) := fun h9 => c63 (hq_eqi.mpr h9)
                    refine lv_iload_n hx hb dX13_scan_306 rfl (lv_at hl 1 rfl) ?_
                    refine lv_bipush (v := 59) hx hb dX13_scan_307 (by decide) ?_
                    refine lv_icmp_ne (tgt := 316) hx hb dX13_scan_309 (by decide) (fun c64 => ?_) (fun c64 => ?_)
                    · have c64 : ¬ (r11).toInt = (59 : Int) := fun h9 => c64 (hq_eqi.mpr h9)
                      refine lv_iconst (v := 5) hx hb dX13_scan_316 (by decide) ?_
                      refine hp_put hx hb hts hown hZ ho43 fp_X13_83 rfl rfl (Nat.le_of_ble_eq_true rfl) dX13_scan_317 (fun V65 _ _ e66 o67 hZ => ?_)
                      have e66 : V65 (mo) = some (.inr (13, hm_o q (m_tp) (m_sz) (bh9) (bh8) (5) (m_ft) (m_fa) (m_le) (m_fo) (m_as) (m_fd) (m_bc) (m_bg) (m_bs) (m_be) (m_b0) (m_b1) (m_cm) (m_hc))) := e66
                      have hP := hP.put h_mo e66 o67 (trivial) rfl
                      have hl68 : (5 : Int32).toInt = 5 := by decide
                      exact hp_vret hx hb hr hlocks hZ ⟨rfl, hP, ⟨bh9, bh8, 5, e66, ⟨by omega, by omega, by omega, by omega, by omega, by omega⟩⟩⟩ dX13_scan_320
                    · have c64 : (r11).toInt = (59 : Int) := hq_eqi.mp c64
                      refine lv_iconst (v := 4) hx hb dX13_scan_312 (by decide) ?_
                      refine lv_goto (tgt := 317) hx hb dX13_scan_313 (by decide) ?_
                      refine hp_put hx hb hts hown hZ ho43 fp_X13_83 rfl rfl (Nat.le_of_ble_eq_true rfl) dX13_scan_317 (fun V69 _ _ e70 o71 hZ => ?_)
                      have e70 : V69 (mo) = some (.inr (13, hm_o q (m_tp) (m_sz) (bh9) (bh8) (4) (m_ft) (m_fa) (m_le) (m_fo) (m_as) (m_fd) (m_bc) (m_bg) (m_bs) (m_be) (m_b0) (m_b1) (m_cm) (m_hc))) := e70
                      have hP := hP.put h_mo e70 o71 (trivial) rfl
                      have hl72 : (4 : Int32).toInt = 4 := by decide
                      exact hp_vret hx hb hr hlocks hZ ⟨rfl, hP, ⟨bh9, bh8, 4, e70, ⟨by omega, by omega, by omega, by omega, by omega, by omega⟩⟩⟩ dX13_scan_320
                  · have c63 : (y57).toInt = (1 : Int) := hq_eqi.mp c63
                    refine lv_iconst (v := 2) hx hb dX13_scan_302 (by decide) ?_
                    refine lv_goto (tgt := 317) hx hb dX13_scan_303 (by decide) ?_
                    refine hp_put hx hb hts hown hZ ho43 fp_X13_83 rfl rfl (Nat.le_of_ble_eq_true rfl) dX13_scan_317 (fun V73 _ _ e74 o75 hZ => ?_)
                    have e74 : V73 (mo) = some (.inr (13, hm_o q (m_tp) (m_sz) (bh9) (bh8) (2) (m_ft) (m_fa) (m_le) (m_fo) (m_as) (m_fd) (m_bc) (m_bg) (m_bs) (m_be) (m_b0) (m_b1) (m_cm) (m_hc))) := e74
                    have hP := hP.put h_mo e74 o75 (trivial) rfl
                    have hl76 : (2 : Int32).toInt = 2 := by decide
                    exact hp_vret hx hb hr hlocks hZ ⟨rfl, hP, ⟨bh9, bh8, 2, e74, ⟨by omega, by omega, by omega, by omega, by omega, by omega⟩⟩⟩ dX13_scan_320
              · have c46 : ¬ (r38).toInt = (0 : Int) := fun h9 => c46 (hq_eqi.mpr h9)
                refine lv_aload_n hx hb dX13_scan_257 rfl (lv_at hl 2 rfl) ?_
                refine lv_aload_n hx hb dX13_scan_258 rfl (lv_at hl 2 rfl) ?_
                refine hp_get (v := .int (bh8)) hx hb hts hown hZ ho43 fl_X13_76 rfl dX13_scan_259 ?_
                refine hp_calli (hp_runV (As := [.int (bh8)]) (rest := []) hx hb hml hown hts (t_X13_byteAt l D cs B G  V9 n hP.1 q hR (mo) h_mo (bh8) ho43  (by omega) (by omega) (by omega) (by omega) (by omega) (by omega) (by omega) (by omega) (by omega)) hZ ho43 cv_X13_79 rfl rfl ⟨Nat.le_of_ble_eq_true rfl, Nat.le_of_ble_eq_true rfl⟩ rfl hl.1 rfl (Nat.le_of_ble_eq_true rfl) dX13_scan_262 ⟨(Nat.le_of_ble_eq_true rfl), (Nat.le_of_ble_eq_true rfl)⟩) hZ (fun r80 V77 n78 _ _ hw79 hZ => ?_)
                obtain ⟨rfl, hq81, ho83, hr82⟩ := hw79
                have hP := hP.trans hq81 (fun _ _ => rfl)
                have b84 := hq_rng r80
                refine hp_calli (hp_runS (As := [.int (r80)]) (rest := []) hx hb hml hown hts (t_X13_isFigure l D cs B G  V77 n hP.1  (r80) ) hZ cv_X13_90 rfl rfl ⟨Nat.le_of_ble_eq_true rfl, Nat.le_of_ble_eq_true rfl⟩ rfl hl.1 rfl (Nat.le_of_ble_eq_true rfl) dX13_scan_265 ⟨(Nat.le_of_ble_eq_true rfl), (Nat.le_of_ble_eq_true rfl)⟩) hZ (fun r88 V85 n86 _ _ hw87 hZ => ?_)
                obtain ⟨rfl, hq89, hr90⟩ := hw87
                have hP := hP.trans hq89 (fun _ _ => rfl)
                have b91 := hq_rng r88
                refine lv_if_eq (tgt := 284) hx hb dX13_scan_268 (by decide) (fun c92 => ?_) (fun c92 => ?_)
                · have c92 : (r88).toInt = (0 : Int) := hq_eqi.mp c92
                  refine lv_aload_n hx hb dX13_scan_284 rfl (lv_at hl 2 rfl) ?_
                  refine lv_iload_n hx hb dX13_scan_285 rfl (lv_at hl 0 rfl) ?_
                  refine lv_if_eq (tgt := 306) hx hb dX13_scan_286 (by decide) (fun c93 => ?_) (fun c93 => ?_)
                  · have c93 : (r38).toInt = (0 : Int) := hq_eqi.mp c93
                    refine lv_iload_n hx hb dX13_scan_306 rfl (lv_at hl 1 rfl) ?_
                    refine lv_bipush (v := 59) hx hb dX13_scan_307 (by decide) ?_
                    refine lv_icmp_ne (tgt := 316) hx hb dX13_scan_309 (by decide) (fun c94 => ?_) (fun c94 => ?_)
                    · have c94 : ¬ (r11).toInt = (59 : Int) := fun h9 => c94 (hq_eqi.mpr h9)
                      refine lv_iconst (v := 5) hx hb dX13_scan_316 (by decide) ?_
                      have fx95 : V85 (mo) = some (.inr (13, hm_o q (m_tp) (m_sz) (bh9) (bh8) (m_hd) (m_ft) (m_fa) (m_le) (m_fo) (m_as) (m_fd) (m_bc) (m_bg) (m_bs) (m_be) (m_b0) (m_b1) (m_cm) (m_hc))) := (hq89.2 (mo) _ h_mo rfl).trans (ho83)
                      refine hp_put hx hb hts hown hZ fx95 fp_X13_83 rfl rfl (Nat.le_of_ble_eq_true rfl) dX13_scan_317 (fun V96 _ _ e97 o98 hZ => ?_)
                      have e97 : V96 (mo) = some (.inr (13, hm_o q (m_tp) (m_sz) (bh9) (bh8) (5) (m_ft) (m_fa) (m_le) (m_fo) (m_as) (m_fd) (m_bc) (m_bg) (m_bs) (m_be) (m_b0) (m_b1) (m_cm) (m_hc))) := e97
                      have hP := hP.put h_mo e97 o98 (trivial) rfl
                      have hl99 : (5 : Int32).toInt = 5 := by decide
                      exact hp_vret hx hb hr hlocks hZ ⟨rfl, hP, ⟨bh9, bh8, 5, e97, ⟨by omega, by omega, by omega, by omega, by omega, by omega⟩⟩⟩ dX13_scan_320
                    · have c94 : (r11).toInt = (59 : Int) := hq_eqi.mp c94
                      refine lv_iconst (v := 4) hx hb dX13_scan_312 (by decide) ?_
                      refine lv_goto (tgt := 317) hx hb dX13_scan_313 (by decide) ?_
                      have fx100 : V85 (mo) = some (.inr (13, hm_o q (m_tp) (m_sz) (bh9) (bh8) (m_hd) (m_ft) (m_fa) (m_le) (m_fo) (m_as) (m_fd) (m_bc) (m_bg) (m_bs) (m_be) (m_b0) (m_b1) (m_cm) (m_hc))) := (hq89.2 (mo) _ h_mo rfl).trans (ho83)
                      refine hp_put hx hb hts hown hZ fx100 fp_X13_83 rfl rfl (Nat.le_of_ble_eq_true rfl) dX13_scan_317 (fun V101 _ _ e102 o103 hZ => ?_)
                      have e102 : V101 (mo) = some (.inr (13, hm_o q (m_tp) (m_sz) (bh9) (bh8) (4) (m_ft) (m_fa) (m_le) (m_fo) (m_as) (m_fd) (m_bc) (m_bg) (m_bs) (m_be) (m_b0) (m_b1) (m_cm) (m_hc))) := e102
                      have hP := hP.put h_mo e102 o103 (trivial) rfl
                      have hl104 : (4 : Int32).toInt = 4 := by decide
                      exact hp_vret hx hb hr hlocks hZ ⟨rfl, hP, ⟨bh9, bh8, 4, e102, ⟨by omega, by omega, by omega, by omega, by omega, by omega⟩⟩⟩ dX13_scan_320
                  · have c93 : ¬ (r38).toInt = (0 : Int) := fun h9 => c93 (hq_eqi.mpr h9)
                    refine lv_aload_n hx hb dX13_scan_289 rfl (lv_at hl 2 rfl) ?_
                    have fx105 : V85 (mo) = some (.inr (13, hm_o q (m_tp) (m_sz) (bh9) (bh8) (m_hd) (m_ft) (m_fa) (m_le) (m_fo) (m_as) (m_fd) (m_bc) (m_bg) (m_bs) (m_be) (m_b0) (m_b1) (m_cm) (m_hc))) := (hq89.2 (mo) _ h_mo rfl).trans (ho83)
                    refine hp_get (v := .int (bh8)) hx hb hts hown hZ fx105 fl_X13_76 rfl dX13_scan_290 ?_
                    refine lv_aload_n hx hb dX13_scan_293 rfl (lv_at hl 2 rfl) ?_
                    refine hp_get (v := .int (bh9)) hx hb hts hown hZ fx105 fl_X13_60 rfl dX13_scan_294 ?_
                    refine lv_isub hx hb dX13_scan_297 ?_
                    refine lv_topi (fun y106 ey107 => ?_)
                    obtain ⟨k108, hk109, b110, b111⟩ := hq_sub (bh8) (bh9)
                    rw [← ey107] at hk109 b110 b111
                    have hk109 : (y106).toInt = (bh8).toInt - (bh9).toInt + k108 * 4294967296 := hk109
                    obtain rfl : k108 = 0 := by omega
                    refine lv_iconst (v := 1) hx hb dX13_scan_298 (by decide) ?_
                    refine lv_icmp_ne (tgt := 306) hx hb dX13_scan_299 (by decide) (fun c112 => ?_) (fun c112 => ?_)
                    · have c112 : ¬ (y106).toInt = (1 : Int) := fun h9 => c112 (hq_eqi.mpr h9)
                      refine lv_iload_n hx hb dX13_scan_306 rfl (lv_at hl 1 rfl) ?_
                      refine lv_bipush (v := 59) hx hb dX13_scan_307 (by decide) ?_
                      refine lv_icmp_ne (tgt := 316) hx hb dX13_scan_309 (by decide) (fun c113 => ?_) (fun c113 => ?_)
                      · have c113 : ¬ (r11).toInt = (59 : Int) := fun h9 => c113 (hq_eqi.mpr h9)
                        refine lv_iconst (v := 5) hx hb dX13_scan_316 (by decide) ?_
                        refine hp_put hx hb hts hown hZ fx105 fp_X13_83 rfl rfl (Nat.le_of_ble_eq_true rfl) dX13_scan_317 (fun V114 _ _ e115 o116 hZ => ?_)
                        have e115 : V114 (mo) = some (.inr (13, hm_o q (m_tp) (m_sz) (bh9) (bh8) (5) (m_ft) (m_fa) (m_le) (m_fo) (m_as) (m_fd) (m_bc) (m_bg) (m_bs) (m_be) (m_b0) (m_b1) (m_cm) (m_hc))) := e115
                        have hP := hP.put h_mo e115 o116 (trivial) rfl
                        have hl117 : (5 : Int32).toInt = 5 := by decide
                        exact hp_vret hx hb hr hlocks hZ ⟨rfl, hP, ⟨bh9, bh8, 5, e115, ⟨by omega, by omega, by omega, by omega, by omega, by omega⟩⟩⟩ dX13_scan_320
                      · have c113 : (r11).toInt = (59 : Int) := hq_eqi.mp c113
                        refine lv_iconst (v := 4) hx hb dX13_scan_312 (by decide) ?_
                        refine lv_goto (tgt := 317) hx hb dX13_scan_313 (by decide) ?_
                        refine hp_put hx hb hts hown hZ fx105 fp_X13_83 rfl rfl (Nat.le_of_ble_eq_true rfl) dX13_scan_317 (fun V118 _ _ e119 o120 hZ => ?_)
                        have e119 : V118 (mo) = some (.inr (13, hm_o q (m_tp) (m_sz) (bh9) (bh8) (4) (m_ft) (m_fa) (m_le) (m_fo) (m_as) (m_fd) (m_bc) (m_bg) (m_bs) (m_be) (m_b0) (m_b1) (m_cm) (m_hc))) := e119
                        have hP := hP.put h_mo e119 o120 (trivial) rfl
                        have hl121 : (4 : Int32).toInt = 4 := by decide
                        exact hp_vret hx hb hr hlocks hZ ⟨rfl, hP, ⟨bh9, bh8, 4, e119, ⟨by omega, by omega, by omega, by omega, by omega, by omega⟩⟩⟩ dX13_scan_320
                    · have c112 : (y106).toInt = (1 : Int) := hq_eqi.mp c112
                      refine lv_iconst (v := 2) hx hb dX13_scan_302 (by decide) ?_
                      refine lv_goto (tgt := 317) hx hb dX13_scan_303 (by decide) ?_
                      refine hp_put hx hb hts hown hZ fx105 fp_X13_83 rfl rfl (Nat.le_of_ble_eq_true rfl) dX13_scan_317 (fun V122 _ _ e123 o124 hZ => ?_)
                      have e123 : V122 (mo) = some (.inr (13, hm_o q (m_tp) (m_sz) (bh9) (bh8) (2) (m_ft) (m_fa) (m_le) (m_fo) (m_as) (m_fd) (m_bc) (m_bg) (m_bs) (m_be) (m_b0) (m_b1) (m_cm) (m_hc))) := e123
                      have hP := hP.put h_mo e123 o124 (trivial) rfl
                      have hl125 : (2 : Int32).toInt = 2 := by decide
                      exact hp_vret hx hb hr hlocks hZ ⟨rfl, hP, ⟨bh9, bh8, 2, e123, ⟨by omega, by omega, by omega, by omega, by omega, by omega⟩⟩⟩ dX13_scan_320
                · have c92 : ¬ (r88).toInt = (0 : Int) := fun h9 => c92 (hq_eqi.mpr h9)
                  refine lv_aload_n hx hb dX13_scan_271 rfl (lv_at hl 2 rfl) ?_
                  refine lv_dup hx hb dX13_scan_272 rfl ?_
                  have fx126 : V85 (mo) = some (.inr (13, hm_o q (m_tp) (m_sz) (bh9) (bh8) (m_hd) (m_ft) (m_fa) (m_le) (m_fo) (m_as) (m_fd) (m_bc) (m_bg) (m_bs) (m_be) (m_b0) (m_b1) (m_cm) (m_hc))) := (hq89.2 (mo) _ h_mo rfl).trans (ho83)
                  refine hp_get (v := .int (bh8)) hx hb hts hown hZ fx126 fl_X13_76 rfl dX13_scan_273 ?_
                  refine lv_iconst (v := 1) hx hb dX13_scan_276 (by decide) ?_
                  refine lv_iadd hx hb dX13_scan_277 ?_
                  refine lv_topi (fun y127 ey128 => ?_)
                  obtain ⟨k129, hk130, b131, b132⟩ := hq_add (bh8) (1)
                  rw [← ey128] at hk130 b131 b132
                  have hk130 : (y127).toInt = (bh8).toInt + (1 : Int) + k129 * 4294967296 := hk130
                  obtain rfl : k129 = 0 := by omega
                  refine hp_put hx hb hts hown hZ fx126 fp_X13_76 rfl rfl (Nat.le_of_ble_eq_true rfl) dX13_scan_278 (fun V133 _ _ e134 o135 hZ => ?_)
                  have e134 : V133 (mo) = some (.inr (13, hm_o q (m_tp) (m_sz) (bh9) (y127) (m_hd) (m_ft) (m_fa) (m_le) (m_fo) (m_as) (m_fd) (m_bc) (m_bg) (m_bs) (m_be) (m_b0) (m_b1) (m_cm) (m_hc))) := e134
                  have hP := hP.put h_mo e134 o135 (trivial) rfl
                  refine lv_goto (tgt := 253) hx hb dX13_scan_281 (by decide) ?_
                  exact ih253 _ (by omega) _ _ _ ls  (y127) rfl hZ hP e134 (by omega) (by omega) (lv_sub hl [0, 1, 2] rfl)
          · have c34 : (r11).toInt = (39 : Int) := hq_eqi.mp c34
            have fx136 : V26 (mo) = some (.inr (13, hm_o q (m_tp) (m_sz) (bh9) (y17) (m_hd) (m_ft) (m_fa) (m_le) (m_fo) (m_as) (m_fd) (m_bc) (m_bg) (m_bs) (m_be) (m_b0) (m_b1) (m_cm) (m_hc))) := (hq30.2 (mo) _ h_mo rfl).trans (e24)
            suffices lp162 : ∀ (k9 : Nat) (V9 : hp_V) (H9 : Heap) (locs9 : List Loc) (ls : Array Slot)  (bh8 : Int32), (5000 - bh8.toInt).toNat = k9 → hp_Z D cs B s V9 H9 n locs9 → hq_P cs G (fun g => g.1 == 1) V V9 → V9 (mo) = some (.inr (13, hm_o q (m_tp) (m_sz) (bh9) (bh8) (m_hd) (m_ft) (m_fa) (m_le) (m_fo) (m_as) (m_fd) (m_bc) (m_bg) (m_bs) (m_be) (m_b0) (m_b1) (m_cm) (m_hc))) → bh9.toInt + 1 ≤ bh8.toInt → bh8.toInt ≤ m_sz.toInt → lv_has ls 3 [(1, .int (r11)), (0, .ref (mo))] → W p l e ({ frames := 2, cells := 0, slots := 0, locals := 42 }) s m ([.ref (mo)] : List Value).toArray below meth c H9 locs9 0 0 (MQ below (hp_QV D cs B (fun V' n' => n = n' ∧ hq_P cs G (fun g => g.1 == 1) V V' ∧ (∃ (m_fr1 : Int32) (m_bh1 : Int32) (m_hd1 : Int32), V' mo = some (.inr (13, hm_o q (m_tp) (m_sz) (m_fr1) (m_bh1) (m_hd1) (m_ft) (m_fa) (m_le) (m_fo) (m_as) (m_fd) (m_bc) (m_bg) (m_bs) (m_be) (m_b0) (m_b1) (m_cm) (m_hc))) ∧ (hm_SC m_sz m_fr1 m_bh1 m_hd1)))) ([.ref (mo)] : List Value).toArray s 0 0 (hp_F B)) (F0 m 162 ls []) from lp162 _ _ _ _ ls  (y17) rfl hZ hP fx136 (by omega) (by omega) (lv_sub hl [0, 1] rfl)
            intro k9
            induction k9 using Nat.strongRecOn with
            | _ k9 ih162 =>
              intro V9 H9 locs9 ls  bh8 hk162 hZ hP ho137 hv138 hv139 hl
              have hb_bh8 := hq_rng bh8
              have hP_162 := hP
              refine lv_aload_n hx hb dX13_scan_162 rfl (lv_at hl 1 rfl) ?_
              refine lv_aload_n hx hb dX13_scan_163 rfl (lv_at hl 1 rfl) ?_
              refine hp_get (v := .int (bh8)) hx hb hts hown hZ ho137 fl_X13_76 rfl dX13_scan_164 ?_
              refine hp_calli (hp_runV (As := [.int (bh8)]) (rest := []) hx hb hml hown hts (t_X13_byteAt l D cs B G  V9 n hP.1 q hR (mo) h_mo (bh8) ho137  (by omega) (by omega) (by omega) (by omega) (by omega) (by omega) (by omega) (by omega) (by omega)) hZ ho137 cv_X13_79 rfl rfl ⟨Nat.le_of_ble_eq_true rfl, Nat.le_of_ble_eq_true rfl⟩ rfl hl.1 rfl (Nat.le_of_ble_eq_true rfl) dX13_scan_167 ⟨(Nat.le_of_ble_eq_true rfl), (Nat.le_of_ble_eq_true rfl)⟩) hZ (fun r143 V140 n141 _ _ hw142 hZ => ?_)
              obtain ⟨rfl, hq144, ho146, hr145⟩ := hw142
              have hP := hP.trans hq144 (fun _ _ => rfl)
              have b147 := hq_rng r143
              refine hp_calli (hp_runS (As := [.int (r143)]) (rest := []) hx hb hml hown hts (t_X13_isSmall l D cs B G  V140 n hP.1  (r143) ) hZ cv_X13_86 rfl rfl ⟨Nat.le_of_ble_eq_true rfl, Nat.le_of_ble_eq_true rfl⟩ rfl hl.1 rfl (Nat.le_of_ble_eq_true rfl) dX13_scan_170 ⟨(Nat.le_of_ble_eq_true rfl), (Nat.le_of_ble_eq_true rfl)⟩) hZ (fun r151 V148 n149 _ _ hw150 hZ => ?_)
              obtain ⟨rfl, hq152, hr153⟩ := hw150
              have hP := hP.trans hq152 (fun _ _ => rfl)
              have b154 := hq_rng r151
              refine lv_if_eq (tgt := 189) hx hb dX13_scan_173 (by decide) (fun c155 => ?_) (fun c155 => ?_)
              · have c155 : (r151).toInt = (0 : Int) := hq_eqi.mp c155
                refine lv_aload_n hx hb dX13_scan_189 rfl (lv_at hl 1 rfl) ?_
                refine lv_aload_n hx hb dX13_scan_190 rfl (lv_at hl 1 rfl) ?_
                have fx156 : V148 (mo) = some (.inr (13, hm_o q (m_tp) (m_sz) (bh9) (bh8) (m_hd) (m_ft) (m_fa) (m_le) (m_fo) (m_as) (m_fd) (m_bc) (m_bg) (m_bs) (m_be) (m_b0) (m_b1) (m_cm) (m_hc))) := (hq152.2 (mo) _ h_mo rfl).trans (ho146)
                refine hp_get (v := .int (bh8)) hx hb hts hown hZ fx156 fl_X13_76 rfl dX13_scan_191 ?_
                refine hp_calli (hp_runV (As := [.int (bh8)]) (rest := []) hx hb hml hown hts (t_X13_byteAt l D cs B G  V148 n hP.1 q hR (mo) h_mo (bh8) fx156  (by omega) (by omega) (by omega) (by omega) (by omega) (by omega) (by omega) (by omega) (by omega)) hZ fx156 cv_X13_79 rfl rfl ⟨Nat.le_of_ble_eq_true rfl, Nat.le_of_ble_eq_true rfl⟩ rfl hl.1 rfl (Nat.le_of_ble_eq_true rfl) dX13_scan_194 ⟨(Nat.le_of_ble_eq_true rfl), (Nat.le_of_ble_eq_true rfl)⟩) hZ (fun r160 V157 n158 _ _ hw159 hZ => ?_)
                obtain ⟨rfl, hq161, ho163, hr162⟩ := hw159
                have hP := hP.trans hq161 (fun _ _ => rfl)
                have b164 := hq_rng r160
                refine lv_bipush (v := 39) hx hb dX13_scan_197 (by decide) ?_
                refine lv_icmp_ne (tgt := 220) hx hb dX13_scan_199 (by decide) (fun c165 => ?_) (fun c165 => ?_)
                · have c165 : ¬ (r160).toInt = (39 : Int) := fun h9 => c165 (hq_eqi.mpr h9)
                  refine lv_iconst (v := 0) hx hb dX13_scan_220 (by decide) ?_
                  refine lv_istore_n (lv' := [(2, .int (0)), (1, .int (r11)), (0, .ref (mo))]) hx hb dX13_scan_221 rfl hl (by decide) rfl (fun ls hl => ?_)
                  refine lv_aload_n hx hb dX13_scan_222 rfl (lv_at hl 2 rfl) ?_
                  refine lv_iload_n hx hb dX13_scan_223 rfl (lv_at hl 0 rfl) ?_
                  refine lv_if_eq (tgt := 231) hx hb dX13_scan_224 (by decide) (fun c166 => ?_) (fun c166 => absurd (by decide) c166)
                  refine lv_iconst (v := 5) hx hb dX13_scan_231 (by decide) ?_
                  refine hp_put hx hb hts hown hZ ho163 fp_X13_83 rfl rfl (Nat.le_of_ble_eq_true rfl) dX13_scan_232 (fun V167 _ _ e168 o169 hZ => ?_)
                  have e168 : V167 (mo) = some (.inr (13, hm_o q (m_tp) (m_sz) (bh9) (bh8) (5) (m_ft) (m_fa) (m_le) (m_fo) (m_as) (m_fd) (m_bc) (m_bg) (m_bs) (m_be) (m_b0) (m_b1) (m_cm) (m_hc))) := e168
                  have hP := hP.put h_mo e168 o169 (trivial) rfl
                  refine lv_aload_n hx hb dX13_scan_235 rfl (lv_at hl 2 rfl) ?_
                  refine lv_dup hx hb dX13_scan_236 rfl ?_
                  refine hp_get (v := .int (bh8)) hx hb hts hown hZ e168 fl_X13_76 rfl dX13_scan_237 ?_
                  refine lv_iconst (v := 1) hx hb dX13_scan_240 (by decide) ?_
                  refine lv_iadd hx hb dX13_scan_241 ?_
                  refine lv_topi (fun y170 ey171 => ?_)
                  obtain ⟨k172, hk173, b174, b175⟩ := hq_add (bh8) (1)
                  rw [← ey171] at hk173 b174 b175
                  have hk173 : (y170).toInt = (bh8).toInt + (1 : Int) + k172 * 4294967296 := hk173
                  obtain rfl : k172 = 0 := by omega
                  refine hp_put hx hb hts hown hZ e168 fp_X13_76 rfl rfl (Nat.le_of_ble_eq_true rfl) dX13_scan_242 (fun V176 _ _ e177 o178 hZ => ?_)
                  have e177 : V176 (mo) = some (.inr (13, hm_o q (m_tp) (m_sz) (bh9) (y170) (5) (m_ft) (m_fa) (m_le) (m_fo) (m_as) (m_fd) (m_bc) (m_bg) (m_bs) (m_be) (m_b0) (m_b1) (m_cm) (m_hc))) := e177
                  have hP := hP.put h_mo e177 o178 (trivial) rfl
                  refine lv_goto (tgt := 320) hx hb dX13_scan_245 (by decide) ?_
                  have hl179 : (5 : Int32).toInt = 5 := by decide
                  exact hp_vret hx hb hr hlocks hZ ⟨rfl, hP, ⟨bh9, y170, 5, e177, ⟨by omega, by omega, by omega, by omega, by omega, by omega⟩⟩⟩ dX13_scan_320
                · have c165 : (r160).toInt = (39 : Int) := hq_eqi.mp c165
                  refine lv_aload_n hx hb dX13_scan_202 rfl (lv_at hl 1 rfl) ?_
                  refine hp_get (v := .int (bh8)) hx hb hts hown hZ ho163 fl_X13_76 rfl dX13_scan_203 ?_
                  refine lv_aload_n hx hb dX13_scan_206 rfl (lv_at hl 1 rfl) ?_
                  refine hp_get (v := .int (bh9)) hx hb hts hown hZ ho163 fl_X13_60 rfl dX13_scan_207 ?_
                  refine lv_isub hx hb dX13_scan_210 ?_
                  refine lv_topi (fun y180 ey181 => ?_)
                  obtain ⟨k182, hk183, b184, b185⟩ := hq_sub (bh8) (bh9)
                  rw [← ey181] at hk183 b184 b185
                  have hk183 : (y180).toInt = (bh8).toInt - (bh9).toInt + k182 * 4294967296 := hk183
                  obtain rfl : k182 = 0 := by omega
                  refine lv_bipush (v := 9) hx hb dX13_scan_211 (by decide) ?_
                  refine lv_icmp_gt (tgt := 220) hx hb dX13_scan_213 (by decide) (fun c186 => ?_) (fun c186 => ?_)
                  · have c186 : (9 : Int) < (y180).toInt := hq_lti.mp c186
                    refine lv_iconst (v := 0) hx hb dX13_scan_220 (by decide) ?_
                    refine lv_istore_n (lv' := [(2, .int (0)), (1, .int (r11)), (0, .ref (mo))]) hx hb dX13_scan_221 rfl hl (by decide) rfl (fun ls hl => ?_)
                    refine lv_aload_n hx hb dX13_scan_222 rfl (lv_at hl 2 rfl) ?_
                    refine lv_iload_n hx hb dX13_scan_223 rfl (lv_at hl 0 rfl) ?_
                    refine lv_if_eq (tgt := 231) hx hb dX13_scan_224 (by decide) (fun c187 => ?_) (fun c187 => absurd (by decide) c187)
                    refine lv_iconst (v := 5) hx hb dX13_scan_231 (by decide) ?_
                    refine hp_put hx hb hts hown hZ ho163 fp_X13_83 rfl rfl (Nat.le_of_ble_eq_true rfl) dX13_scan_232 (fun V188 _ _ e189 o190 hZ => ?_)
                    have e189 : V188 (mo) = some (.inr (13, hm_o q (m_tp) (m_sz) (bh9) (bh8) (5) (m_ft) (m_fa) (m_le) (m_fo) (m_as) (m_fd) (m_bc) (m_bg) (m_bs) (m_be) (m_b0) (m_b1) (m_cm) (m_hc))) := e189
                    have hP := hP.put h_mo e189 o190 (trivial) rfl
                    refine lv_aload_n hx hb dX13_scan_235 rfl (lv_at hl 2 rfl) ?_
                    refine lv_dup hx hb dX13_scan_236 rfl ?_
                    refine hp_get (v := .int (bh8)) hx hb hts hown hZ e189 fl_X13_76 rfl dX13_scan_237 ?_
                    refine lv_iconst (v := 1) hx hb dX13_scan_240 (by decide) ?_
                    refine lv_iadd hx hb dX13_scan_241 ?_
                    refine lv_topi (fun y191 ey192 => ?_)
                    obtain ⟨k193, hk194, b195, b196⟩ := hq_add (bh8) (1)
                    rw [← ey192] at hk194 b195 b196
                    have hk194 : (y191).toInt = (bh8).toInt + (1 : Int) + k193 * 4294967296 := hk194
                    obtain rfl : k193 = 0 := by omega
                    refine hp_put hx hb hts hown hZ e189 fp_X13_76 rfl rfl (Nat.le_of_ble_eq_true rfl) dX13_scan_242 (fun V197 _ _ e198 o199 hZ => ?_)
                    have e198 : V197 (mo) = some (.inr (13, hm_o q (m_tp) (m_sz) (bh9) (y191) (5) (m_ft) (m_fa) (m_le) (m_fo) (m_as) (m_fd) (m_bc) (m_bg) (m_bs) (m_be) (m_b0) (m_b1) (m_cm) (m_hc))) := e198
                    have hP := hP.put h_mo e198 o199 (trivial) rfl
                    refine lv_goto (tgt := 320) hx hb dX13_scan_245 (by decide) ?_
                    have hl200 : (5 : Int32).toInt = 5 := by decide
                    exact hp_vret hx hb hr hlocks hZ ⟨rfl, hP, ⟨bh9, y191, 5, e198, ⟨by omega, by omega, by omega, by omega, by omega, by omega⟩⟩⟩ dX13_scan_320
                  · have c186 : ¬ (9 : Int) < (y180).toInt := fun h9 => c186 (hq_lti.mpr h9)
                    refine lv_iconst (v := 1) hx hb dX13_scan_216 (by decide) ?_
                    refine lv_goto (tgt := 221) hx hb dX13_scan_217 (by decide) ?_
                    refine lv_istore_n (lv' := [(2, .int (1)), (1, .int (r11)), (0, .ref (mo))]) hx hb dX13_scan_221 rfl hl (by decide) rfl (fun ls hl => ?_)
                    refine lv_aload_n hx hb dX13_scan_222 rfl (lv_at hl 2 rfl) ?_
                    refine lv_iload_n hx hb dX13_scan_223 rfl (lv_at hl 0 rfl) ?_
                    refine lv_if_eq (tgt := 231) hx hb dX13_scan_224 (by decide) (fun c201 => absurd c201 (by decide)) (fun c201 => ?_)
                    refine lv_iconst (v := 3) hx hb dX13_scan_227 (by decide) ?_
                    refine lv_goto (tgt := 232) hx hb dX13_scan_228 (by decide) ?_
                    refine hp_put hx hb hts hown hZ ho163 fp_X13_83 rfl rfl (Nat.le_of_ble_eq_true rfl) dX13_scan_232 (fun V202 _ _ e203 o204 hZ => ?_)
                    have e203 : V202 (mo) = some (.inr (13, hm_o q (m_tp) (m_sz) (bh9) (bh8) (3) (m_ft) (m_fa) (m_le) (m_fo) (m_as) (m_fd) (m_bc) (m_bg) (m_bs) (m_be) (m_b0) (m_b1) (m_cm) (m_hc))) := e203
                    have hP := hP.put h_mo e203 o204 (trivial) rfl
                    refine lv_aload_n hx hb dX13_scan_235 rfl (lv_at hl 2 rfl) ?_
                    refine lv_dup hx hb dX13_scan_236 rfl ?_
                    refine hp_get (v := .int (bh8)) hx hb hts hown hZ e203 fl_X13_76 rfl dX13_scan_237 ?_
                    refine lv_iconst (v := 1) hx hb dX13_scan_240 (by decide) ?_
                    refine lv_iadd hx hb dX13_scan_241 ?_
                    refine lv_topi (fun y205 ey206 => ?_)
                    obtain ⟨k207, hk208, b209, b210⟩ := hq_add (bh8) (1)
                    rw [← ey206] at hk208 b209 b210
                    have hk208 : (y205).toInt = (bh8).toInt + (1 : Int) + k207 * 4294967296 := hk208
                    obtain rfl : k207 = 0 := by omega
                    refine hp_put hx hb hts hown hZ e203 fp_X13_76 rfl rfl (Nat.le_of_ble_eq_true rfl) dX13_scan_242 (fun V211 _ _ e212 o213 hZ => ?_)
                    have e212 : V211 (mo) = some (.inr (13, hm_o q (m_tp) (m_sz) (bh9) (y205) (3) (m_ft) (m_fa) (m_le) (m_fo) (m_as) (m_fd) (m_bc) (m_bg) (m_bs) (m_be) (m_b0) (m_b1) (m_cm) (m_hc))) := e212
                    have hP := hP.put h_mo e212 o213 (trivial) rfl
                    refine lv_goto (tgt := 320) hx hb dX13_scan_245 (by decide) ?_
                    have hl214 : (3 : Int32).toInt = 3 := by decide
                    exact hp_vret hx hb hr hlocks hZ ⟨rfl, hP, ⟨bh9, y205, 3, e212, ⟨by omega, by omega, by omega, by omega, by omega, by omega⟩⟩⟩ dX13_scan_320
              · have c155 : ¬ (r151).toInt = (0 : Int) := fun h9 => c155 (hq_eqi.mpr h9)
                refine lv_aload_n hx hb dX13_scan_176 rfl (lv_at hl 1 rfl) ?_
                refine lv_dup hx hb dX13_scan_177 rfl ?_
                have fx215 : V148 (mo) = some (.inr (13, hm_o q (m_tp) (m_sz) (bh9) (bh8) (m_hd) (m_ft) (m_fa) (m_le) (m_fo) (m_as) (m_fd) (m_bc) (m_bg) (m_bs) (m_be) (m_b0) (m_b1) (m_cm) (m_hc))) := (hq152.2 (mo) _ h_mo rfl).trans (ho146)
                refine hp_get (v := .int (bh8)) hx hb hts hown hZ fx215 fl_X13_76 rfl dX13_scan_178 ?_
                refine lv_iconst (v := 1) hx hb dX13_scan_181 (by decide) ?_
                refine lv_iadd hx hb dX13_scan_182 ?_
                refine lv_topi (fun y216 ey217 => ?_)
                obtain ⟨k218, hk219, b220, b221⟩ := hq_add (bh8) (1)
                rw [← ey217] at hk219 b220 b221
                have hk219 : (y216).toInt = (bh8).toInt + (1 : Int) + k218 * 4294967296 := hk219
                obtain rfl : k218 = 0 := by omega
                refine hp_put hx hb hts hown hZ fx215 fp_X13_76 rfl rfl (Nat.le_of_ble_eq_true rfl) dX13_scan_183 (fun V222 _ _ e223 o224 hZ => ?_)
                have e223 : V222 (mo) = some (.inr (13, hm_o q (m_tp) (m_sz) (bh9) (y216) (m_hd) (m_ft) (m_fa) (m_le) (m_fo) (m_as) (m_fd) (m_bc) (m_bg) (m_bs) (m_be) (m_b0) (m_b1) (m_cm) (m_hc))) := e223
                have hP := hP.put h_mo e223 o224 (trivial) rfl
                refine lv_goto (tgt := 162) hx hb dX13_scan_186 (by decide) ?_
                exact ih162 _ (by omega) _ _ _ ls  (y216) rfl hZ hP e223 (by omega) (by omega) (lv_sub hl [0, 1] rfl)
        · have c33 : ¬ (r29).toInt = (0 : Int) := fun h9 => c33 (hq_eqi.mpr h9)
          have fx225 : V26 (mo) = some (.inr (13, hm_o q (m_tp) (m_sz) (bh9) (y17) (m_hd) (m_ft) (m_fa) (m_le) (m_fo) (m_as) (m_fd) (m_bc) (m_bg) (m_bs) (m_be) (m_b0) (m_b1) (m_cm) (m_hc))) := (hq30.2 (mo) _ h_mo rfl).trans (e24)
          suffices lp103 : ∀ (k9 : Nat) (V9 : hp_V) (H9 : Heap) (locs9 : List Loc) (ls : Array Slot)  (bh8 : Int32), (5000 - bh8.toInt).toNat = k9 → hp_Z D cs B s V9 H9 n locs9 → hq_P cs G (fun g => g.1 == 1) V V9 → V9 (mo) = some (.inr (13, hm_o q (m_tp) (m_sz) (bh9) (bh8) (m_hd) (m_ft) (m_fa) (m_le) (m_fo) (m_as) (m_fd) (m_bc) (m_bg) (m_bs) (m_be) (m_b0) (m_b1) (m_cm) (m_hc))) → bh9.toInt + 1 ≤ bh8.toInt → bh8.toInt ≤ m_sz.toInt → lv_has ls 3 [(1, .int (r11)), (0, .ref (mo))] → W p l e ({ frames := 2, cells := 0, slots := 0, locals := 42 }) s m ([.ref (mo)] : List Value).toArray below meth c H9 locs9 0 0 (MQ below (hp_QV D cs B (fun V' n' => n = n' ∧ hq_P cs G (fun g => g.1 == 1) V V' ∧ (∃ (m_fr1 : Int32) (m_bh1 : Int32) (m_hd1 : Int32), V' mo = some (.inr (13, hm_o q (m_tp) (m_sz) (m_fr1) (m_bh1) (m_hd1) (m_ft) (m_fa) (m_le) (m_fo) (m_as) (m_fd) (m_bc) (m_bg) (m_bs) (m_be) (m_b0) (m_b1) (m_cm) (m_hc))) ∧ (hm_SC m_sz m_fr1 m_bh1 m_hd1)))) ([.ref (mo)] : List Value).toArray s 0 0 (hp_F B)) (F0 m 103 ls []) from lp103 _ _ _ _ ls  (y17) rfl hZ hP fx225 (by omega) (by omega) (lv_sub hl [0, 1] rfl)
          intro k9
          induction k9 using Nat.strongRecOn with
          | _ k9 ih103 =>
            intro V9 H9 locs9 ls  bh8 hk103 hZ hP ho226 hv227 hv228 hl
            have hb_bh8 := hq_rng bh8
            have hP_103 := hP
            refine lv_aload_n hx hb dX13_scan_103 rfl (lv_at hl 1 rfl) ?_
            refine lv_aload_n hx hb dX13_scan_104 rfl (lv_at hl 1 rfl) ?_
            refine hp_get (v := .int (bh8)) hx hb hts hown hZ ho226 fl_X13_76 rfl dX13_scan_105 ?_
            refine hp_calli (hp_runV (As := [.int (bh8)]) (rest := []) hx hb hml hown hts (t_X13_byteAt l D cs B G  V9 n hP.1 q hR (mo) h_mo (bh8) ho226  (by omega) (by omega) (by omega) (by omega) (by omega) (by omega) (by omega) (by omega) (by omega)) hZ ho226 cv_X13_79 rfl rfl ⟨Nat.le_of_ble_eq_true rfl, Nat.le_of_ble_eq_true rfl⟩ rfl hl.1 rfl (Nat.le_of_ble_eq_true rfl) dX13_scan_108 ⟨(Nat.le_of_ble_eq_true rfl), (Nat.le_of_ble_eq_true rfl)⟩) hZ (fun r232 V229 n230 _ _ hw231 hZ => ?_)
            obtain ⟨rfl, hq233, ho235, hr234⟩ := hw231
            have hP := hP.trans hq233 (fun _ _ => rfl)
            have b236 := hq_rng r232
            refine hp_calli (hp_runS (As := [.int (r232)]) (rest := []) hx hb hml hown hts (t_X13_isSmall l D cs B G  V229 n hP.1  (r232) ) hZ cv_X13_86 rfl rfl ⟨Nat.le_of_ble_eq_true rfl, Nat.le_of_ble_eq_true rfl⟩ rfl hl.1 rfl (Nat.le_of_ble_eq_true rfl) dX13_scan_111 ⟨(Nat.le_of_ble_eq_true rfl), (Nat.le_of_ble_eq_true rfl)⟩) hZ (fun r240 V237 n238 _ _ hw239 hZ => ?_)
            obtain ⟨rfl, hq241, hr242⟩ := hw239
            have hP := hP.trans hq241 (fun _ _ => rfl)
            have b243 := hq_rng r240
            refine lv_if_eq (tgt := 130) hx hb dX13_scan_114 (by decide) (fun c244 => ?_) (fun c244 => ?_)
            · have c244 : (r240).toInt = (0 : Int) := hq_eqi.mp c244
              refine lv_aload_n hx hb dX13_scan_130 rfl (lv_at hl 1 rfl) ?_
              refine lv_aload_n hx hb dX13_scan_131 rfl (lv_at hl 1 rfl) ?_
              have fx245 : V237 (mo) = some (.inr (13, hm_o q (m_tp) (m_sz) (bh9) (bh8) (m_hd) (m_ft) (m_fa) (m_le) (m_fo) (m_as) (m_fd) (m_bc) (m_bg) (m_bs) (m_be) (m_b0) (m_b1) (m_cm) (m_hc))) := (hq241.2 (mo) _ h_mo rfl).trans (ho235)
              refine hp_get (v := .int (bh8)) hx hb hts hown hZ fx245 fl_X13_76 rfl dX13_scan_132 ?_
              refine lv_aload_n hx hb dX13_scan_135 rfl (lv_at hl 1 rfl) ?_
              refine hp_get (v := .int (bh9)) hx hb hts hown hZ fx245 fl_X13_60 rfl dX13_scan_136 ?_
              refine lv_isub hx hb dX13_scan_139 ?_
              refine lv_topi (fun y246 ey247 => ?_)
              obtain ⟨k248, hk249, b250, b251⟩ := hq_sub (bh8) (bh9)
              rw [← ey247] at hk249 b250 b251
              have hk249 : (y246).toInt = (bh8).toInt - (bh9).toInt + k248 * 4294967296 := hk249
              obtain rfl : k248 = 0 := by omega
              refine lv_bipush (v := 12) hx hb dX13_scan_140 (by decide) ?_
              refine lv_icmp_le (tgt := 149) hx hb dX13_scan_142 (by decide) (fun c252 => ?_) (fun c252 => ?_)
              · have c252 : (y246).toInt ≤ (12 : Int) := hq_lei.mp c252
                refine lv_iconst (v := 1) hx hb dX13_scan_149 (by decide) ?_
                refine hp_put hx hb hts hown hZ fx245 fp_X13_83 rfl rfl (Nat.le_of_ble_eq_true rfl) dX13_scan_150 (fun V253 _ _ e254 o255 hZ => ?_)
                have e254 : V253 (mo) = some (.inr (13, hm_o q (m_tp) (m_sz) (bh9) (bh8) (1) (m_ft) (m_fa) (m_le) (m_fo) (m_as) (m_fd) (m_bc) (m_bg) (m_bs) (m_be) (m_b0) (m_b1) (m_cm) (m_hc))) := e254
                have hP := hP.put h_mo e254 o255 (trivial) rfl
                refine lv_goto (tgt := 320) hx hb dX13_scan_153 (by decide) ?_
                have hl256 : (1 : Int32).toInt = 1 := by decide
                exact hp_vret hx hb hr hlocks hZ ⟨rfl, hP, ⟨bh9, bh8, 1, e254, ⟨by omega, by omega, by omega, by omega, by omega, by omega⟩⟩⟩ dX13_scan_320
              · have c252 : ¬ (y246).toInt ≤ (12 : Int) := fun h9 => c252 (hq_lei.mpr h9)
                refine lv_iconst (v := 5) hx hb dX13_scan_145 (by decide) ?_
                refine lv_goto (tgt := 150) hx hb dX13_scan_146 (by decide) ?_
                refine hp_put hx hb hts hown hZ fx245 fp_X13_83 rfl rfl (Nat.le_of_ble_eq_true rfl) dX13_scan_150 (fun V257 _ _ e258 o259 hZ => ?_)
                have e258 : V257 (mo) = some (.inr (13, hm_o q (m_tp) (m_sz) (bh9) (bh8) (5) (m_ft) (m_fa) (m_le) (m_fo) (m_as) (m_fd) (m_bc) (m_bg) (m_bs) (m_be) (m_b0) (m_b1) (m_cm) (m_hc))) := e258
                have hP := hP.put h_mo e258 o259 (trivial) rfl
                refine lv_goto (tgt := 320) hx hb dX13_scan_153 (by decide) ?_
                have hl260 : (5 : Int32).toInt = 5 := by decide
                exact hp_vret hx hb hr hlocks hZ ⟨rfl, hP, ⟨bh9, bh8, 5, e258, ⟨by omega, by omega, by omega, by omega, by omega, by omega⟩⟩⟩ dX13_scan_320
            · have c244 : ¬ (r240).toInt = (0 : Int) := fun h9 => c244 (hq_eqi.mpr h9)
              refine lv_aload_n hx hb dX13_scan_117 rfl (lv_at hl 1 rfl) ?_
              refine lv_dup hx hb dX13_scan_118 rfl ?_
              have fx261 : V237 (mo) = some (.inr (13, hm_o q (m_tp) (m_sz) (bh9) (bh8) (m_hd) (m_ft) (m_fa) (m_le) (m_fo) (m_as) (m_fd) (m_bc) (m_bg) (m_bs) (m_be) (m_b0) (m_b1) (m_cm) (m_hc))) := (hq241.2 (mo) _ h_mo rfl).trans (ho235)
              refine hp_get (v := .int (bh8)) hx hb hts hown hZ fx261 fl_X13_76 rfl dX13_scan_119 ?_
              refine lv_iconst (v := 1) hx hb dX13_scan_122 (by decide) ?_
              refine lv_iadd hx hb dX13_scan_123 ?_
              refine lv_topi (fun y262 ey263 => ?_)
              obtain ⟨k264, hk265, b266, b267⟩ := hq_add (bh8) (1)
              rw [← ey263] at hk265 b266 b267
              have hk265 : (y262).toInt = (bh8).toInt + (1 : Int) + k264 * 4294967296 := hk265
              obtain rfl : k264 = 0 := by omega
              refine hp_put hx hb hts hown hZ fx261 fp_X13_76 rfl rfl (Nat.le_of_ble_eq_true rfl) dX13_scan_124 (fun V268 _ _ e269 o270 hZ => ?_)
              have e269 : V268 (mo) = some (.inr (13, hm_o q (m_tp) (m_sz) (bh9) (y262) (m_hd) (m_ft) (m_fa) (m_le) (m_fo) (m_as) (m_fd) (m_bc) (m_bg) (m_bs) (m_be) (m_b0) (m_b1) (m_cm) (m_hc))) := e269
              have hP := hP.put h_mo e269 o270 (trivial) rfl
              refine lv_goto (tgt := 103) hx hb dX13_scan_127 (by decide) ?_
              exact ih103 _ (by omega) _ _ _ ls  (y262) rfl hZ hP e269 (by omega) (by omega) (lv_sub hl [0, 1] rfl)
      · have c16 : (bh9).toInt = (m_sz).toInt := hq_eqi.mp c16
        refine lv_aload_n hx hb dX13_scan_80 rfl (lv_at hl 1 rfl) ?_
        refine lv_iconst (v := 0) hx hb dX13_scan_81 (by decide) ?_
        refine hp_put hx hb hts hown hZ ho14 fp_X13_83 rfl rfl (Nat.le_of_ble_eq_true rfl) dX13_scan_82 (fun V271 _ _ e272 o273 hZ => ?_)
        have e272 : V271 (mo) = some (.inr (13, hm_o q (m_tp) (m_sz) (bh9) (bh9) (0) (m_ft) (m_fa) (m_le) (m_fo) (m_as) (m_fd) (m_bc) (m_bg) (m_bs) (m_be) (m_b0) (m_b1) (m_cm) (m_hc))) := e272
        have hP := hP.put h_mo e272 o273 (trivial) rfl
        have hl274 : (0 : Int32).toInt = 0 := by decide
        exact hp_vret hx hb hr hlocks hZ ⟨rfl, hP, ⟨bh9, bh9, 0, e272, ⟨by omega, by omega, by omega, by omega, by omega, by omega⟩⟩⟩ dX13_scan_85
    · have c4 : ¬ (m_sz).toInt ≤ (bh9).toInt := fun h9 => c4 (hq_lei.mpr h9)
      refine lv_aload_n hx hb dX13_scan_11 rfl (lv_at hl 0 rfl) ?_
      refine hp_get (v := .ref (q + 20)) hx hb hts hown hZ ho1 fl_X13_73 rfl dX13_scan_12 ?_
      refine lv_aload_n hx hb dX13_scan_15 rfl (lv_at hl 0 rfl) ?_
      refine hp_get (v := .int (bh9)) hx hb hts hown hZ ho1 fl_X13_76 rfl dX13_scan_16 ?_
      obtain ⟨hN277, g276, eV275⟩ := hq_o20 hP.1 (hr_20 hR)
      refine hp_bald hx hb hZ eV275 (hq_in (by omega) (by omega)) dX13_scan_19 ?_
      refine lv_topi (fun y279 ey280 => ?_)
      have b281 := hq_rng y279
      refine lv_bipush (v := 32) hx hb dX13_scan_20 (by decide) ?_
      refine lv_icmp_eq (tgt := 39) hx hb dX13_scan_22 (by decide) (fun c282 => ?_) (fun c282 => ?_)
      · have c282 : (y279).toInt = (32 : Int) := hq_eqi.mp c282
        refine lv_aload_n hx hb dX13_scan_39 rfl (lv_at hl 0 rfl) ?_
        refine lv_dup hx hb dX13_scan_40 rfl ?_
        refine hp_get (v := .int (bh9)) hx hb hts hown hZ ho1 fl_X13_76 rfl dX13_scan_41 ?_
        refine lv_iconst (v := 1) hx hb dX13_scan_44 (by decide) ?_
        refine lv_iadd hx hb dX13_scan_45 ?_
        refine lv_topi (fun y283 ey284 => ?_)
        obtain ⟨k285, hk286, b287, b288⟩ := hq_add (bh9) (1)
        rw [← ey284] at hk286 b287 b288
        have hk286 : (y283).toInt = (bh9).toInt + (1 : Int) + k285 * 4294967296 := hk286
        obtain rfl : k285 = 0 := by omega
        refine hp_put hx hb hts hown hZ ho1 fp_X13_76 rfl rfl (Nat.le_of_ble_eq_true rfl) dX13_scan_46 (fun V289 _ _ e290 o291 hZ => ?_)
        have e290 : V289 (mo) = some (.inr (13, hm_o q (m_tp) (m_sz) (m_fr) (y283) (m_hd) (m_ft) (m_fa) (m_le) (m_fo) (m_as) (m_fd) (m_bc) (m_bg) (m_bs) (m_be) (m_b0) (m_b1) (m_cm) (m_hc))) := e290
        have hP := hP.put h_mo e290 o291 (trivial) rfl
        refine lv_goto (tgt := 0) hx hb dX13_scan_49 (by decide) ?_
        exact ih0 _ (by omega) _ _ _ ls  (y283) rfl hZ hP e290 (by omega) (by omega) (lv_sub hl [0] rfl)
      · have c282 : ¬ (y279).toInt = (32 : Int) := fun h9 => c282 (hq_eqi.mpr h9)
        refine lv_aload_n hx hb dX13_scan_25 rfl (lv_at hl 0 rfl) ?_
        refine hp_get (v := .ref (q + 20)) hx hb hts hown hZ ho1 fl_X13_73 rfl dX13_scan_26 ?_
        refine lv_aload_n hx hb dX13_scan_29 rfl (lv_at hl 0 rfl) ?_
        refine hp_get (v := .int (bh9)) hx hb hts hown hZ ho1 fl_X13_76 rfl dX13_scan_30 ?_
        refine hp_bald hx hb hZ eV275 (hq_in (by omega) (by omega)) dX13_scan_33 ?_
        refine lv_topi (fun y292 ey293 => ?_)
        have b294 := hq_rng y292
        refine lv_bipush (v := 10) hx hb dX13_scan_34 (by decide) ?_
        refine lv_icmp_ne (tgt := 52) hx hb dX13_scan_36 (by decide) (fun c295 => ?_) (fun c295 => ?_)
        · have c295 : ¬ (y292).toInt = (10 : Int) := fun h9 => c295 (hq_eqi.mpr h9)
          refine lv_aload_n hx hb dX13_scan_52 rfl (lv_at hl 0 rfl) ?_
          refine lv_aload_n hx hb dX13_scan_53 rfl (lv_at hl 0 rfl) ?_
          refine hp_get (v := .int (bh9)) hx hb hts hown hZ ho1 fl_X13_76 rfl dX13_scan_54 ?_
          refine hp_put hx hb hts hown hZ ho1 fp_X13_60 rfl rfl (Nat.le_of_ble_eq_true rfl) dX13_scan_57 (fun V296 _ _ e297 o298 hZ => ?_)
          have e297 : V296 (mo) = some (.inr (13, hm_o q (m_tp) (m_sz) (bh9) (bh9) (m_hd) (m_ft) (m_fa) (m_le) (m_fo) (m_as) (m_fd) (m_bc) (m_bg) (m_bs) (m_be) (m_b0) (m_b1) (m_cm) (m_hc))) := e297
          have hP := hP.put h_mo e297 o298 (trivial) rfl
          refine lv_aload_n hx hb dX13_scan_60 rfl (lv_at hl 0 rfl) ?_
          refine lv_aload_n hx hb dX13_scan_61 rfl (lv_at hl 0 rfl) ?_
          refine hp_get (v := .int (bh9)) hx hb hts hown hZ e297 fl_X13_60 rfl dX13_scan_62 ?_
          refine hp_calli (hp_runV (As := [.int (bh9)]) (rest := []) hx hb hml hown hts (t_X13_byteAt l D cs B G  V296 n hP.1 q hR (mo) h_mo (bh9) e297  (by omega) (by omega) (by omega) (by omega) (by omega) (by omega) (by omega) (by omega) (by omega)) hZ e297 cv_X13_79 rfl rfl ⟨Nat.le_of_ble_eq_true rfl, Nat.le_of_ble_eq_true rfl⟩ rfl hl.1 rfl (Nat.le_of_ble_eq_true rfl) dX13_scan_65 ⟨(Nat.le_of_ble_eq_true rfl), (Nat.le_of_ble_eq_true rfl)⟩) hZ (fun r302 V299 n300 _ _ hw301 hZ => ?_)
          obtain ⟨rfl, hq303, ho305, hr304⟩ := hw301
          have hP := hP.trans hq303 (fun _ _ => rfl)
          have b306 := hq_rng r302
          refine lv_istore_n (lv' := [(1, .int (r302)), (0, .ref (mo))]) hx hb dX13_scan_68 rfl hl (by decide) rfl (fun ls hl => ?_)
          refine lv_aload_n hx hb dX13_scan_69 rfl (lv_at hl 1 rfl) ?_
          refine hp_get (v := .int (bh9)) hx hb hts hown hZ ho305 fl_X13_60 rfl dX13_scan_70 ?_
          refine lv_aload_n hx hb dX13_scan_73 rfl (lv_at hl 1 rfl) ?_
          refine hp_get (v := .int (m_sz)) hx hb hts hown hZ ho305 fl_X13_70 rfl dX13_scan_74 ?_
          refine lv_icmp_ne (tgt := 86) hx hb dX13_scan_77 (by decide) (fun c307 => ?_) (fun c307 => ?_)
          · have c307 : ¬ (bh9).toInt = (m_sz).toInt := fun h9 => c307 (hq_eqi.mpr h9)
            refine lv_aload_n hx hb dX13_scan_86 rfl (lv_at hl 1 rfl) ?_
            refine lv_dup hx hb dX13_scan_87 rfl ?_
            refine hp_get (v := .int (bh9)) hx hb hts hown hZ ho305 fl_X13_76 rfl dX13_scan_88 ?_
            refine lv_iconst (v := 1) hx hb dX13_scan_91 (by decide) ?_
            refine lv_iadd hx hb dX13_scan_92 ?_
            refine lv_topi (fun y308 ey309 => ?_)
            obtain ⟨k310, hk311, b312, b313⟩ := hq_add (bh9) (1)
            rw [← ey309] at hk311 b312 b313
            have hk311 : (y308).toInt = (bh9).toInt + (1 : Int) + k310 * 4294967296 := hk311
            obtain rfl : k310 = 0 := by omega
            refine hp_put hx hb hts hown hZ ho305 fp_X13_76 rfl rfl (Nat.le_of_ble_eq_true rfl) dX13_scan_93 (fun V314 _ _ e315 o316 hZ => ?_)
            have e315 : V314 (mo) = some (.inr (13, hm_o q (m_tp) (m_sz) (bh9) (y308) (m_hd) (m_ft) (m_fa) (m_le) (m_fo) (m_as) (m_fd) (m_bc) (m_bg) (m_bs) (m_be) (m_b0) (m_b1) (m_cm) (m_hc))) := e315
            have hP := hP.put h_mo e315 o316 (trivial) rfl
            refine lv_iload_n hx hb dX13_scan_96 rfl (lv_at hl 0 rfl) ?_
            refine hp_calli (hp_runS (As := [.int (r302)]) (rest := []) hx hb hml hown hts (t_X13_isSmall l D cs B G  V314 n hP.1  (r302) ) hZ cv_X13_86 rfl rfl ⟨Nat.le_of_ble_eq_true rfl, Nat.le_of_ble_eq_true rfl⟩ rfl hl.1 rfl (Nat.le_of_ble_eq_true rfl) dX13_scan_97 ⟨(Nat.le_of_ble_eq_true rfl), (Nat.le_of_ble_eq_true rfl)⟩) hZ (fun r320 V317 n318 _ _ hw319 hZ => ?_)
            obtain ⟨rfl, hq321, hr322⟩ := hw319
            have hP := hP.trans hq321 (fun _ _ => rfl)
            have b323 := hq_rng r320
            refine lv_if_eq (tgt := 156) hx hb dX13_scan_100 (by decide) (fun c324 => ?_) (fun c324 => ?_)
            · have c324 : (r320).toInt = (0 : Int) := hq_eqi.mp c324
              refine lv_iload_n hx hb dX13_scan_156 rfl (lv_at hl 0 rfl) ?_
              refine lv_bipush (v := 39) hx hb dX13_scan_157 (by decide) ?_
              refine lv_icmp_ne (tgt := 248) hx hb dX13_scan_159 (by decide) (fun c325 => ?_) (fun c325 => ?_)
              · have c325 : ¬ (r302).toInt = (39 : Int) := fun h9 => c325 (hq_eqi.mpr h9)
                refine lv_iload_n hx hb dX13_scan_248 rfl (lv_at hl 0 rfl) ?_
                refine hp_calli (hp_runS (As := [.int (r302)]) (rest := []) hx hb hml hown hts (t_X13_isFigure l D cs B G  V317 n hP.1  (r302) ) hZ cv_X13_90 rfl rfl ⟨Nat.le_of_ble_eq_true rfl, Nat.le_of_ble_eq_true rfl⟩ rfl hl.1 rfl (Nat.le_of_ble_eq_true rfl) dX13_scan_249 ⟨(Nat.le_of_ble_eq_true rfl), (Nat.le_of_ble_eq_true rfl)⟩) hZ (fun r329 V326 n327 _ _ hw328 hZ => ?_)
                obtain ⟨rfl, hq330, hr331⟩ := hw328
                have hP := hP.trans hq330 (fun _ _ => rfl)
                have b332 := hq_rng r329
                refine lv_istore_n (lv' := [(2, .int (r329)), (1, .int (r302)), (0, .ref (mo))]) hx hb dX13_scan_252 rfl hl (by decide) rfl (fun ls hl => ?_)
                have fx333 : V326 (mo) = some (.inr (13, hm_o q (m_tp) (m_sz) (bh9) (y308) (m_hd) (m_ft) (m_fa) (m_le) (m_fo) (m_as) (m_fd) (m_bc) (m_bg) (m_bs) (m_be) (m_b0) (m_b1) (m_cm) (m_hc))) := (hq330.2 (mo) _ h_mo rfl).trans ((hq321.2 (mo) _ h_mo rfl).trans (e315))
                suffices lp253 : ∀ (k9 : Nat) (V9 : hp_V) (H9 : Heap) (locs9 : List Loc) (ls : Array Slot)  (bh8 : Int32), (5000 - bh8.toInt).toNat = k9 → hp_Z D cs B s V9 H9 n locs9 → hq_P cs G (fun g => g.1 == 1) V V9 → V9 (mo) = some (.inr (13, hm_o q (m_tp) (m_sz) (bh9) (bh8) (m_hd) (m_ft) (m_fa) (m_le) (m_fo) (m_as) (m_fd) (m_bc) (m_bg) (m_bs) (m_be) (m_b0) (m_b1) (m_cm) (m_hc))) → bh9.toInt + 1 ≤ bh8.toInt → bh8.toInt ≤ m_sz.toInt → lv_has ls 3 [(2, .int (r329)), (1, .int (r302)), (0, .ref (mo))] → W p l e ({ frames := 2, cells := 0, slots := 0, locals := 42 }) s m ([.ref (mo)] : List Value).toArray below meth c H9 locs9 0 0 (MQ below (hp_QV D cs B (fun V' n' => n = n' ∧ hq_P cs G (fun g => g.1 == 1) V V' ∧ (∃ (m_fr1 : Int32) (m_bh1 : Int32) (m_hd1 : Int32), V' mo = some (.inr (13, hm_o q (m_tp) (m_sz) (m_fr1) (m_bh1) (m_hd1) (m_ft) (m_fa) (m_le) (m_fo) (m_as) (m_fd) (m_bc) (m_bg) (m_bs) (m_be) (m_b0) (m_b1) (m_cm) (m_hc))) ∧ (hm_SC m_sz m_fr1 m_bh1 m_hd1)))) ([.ref (mo)] : List Value).toArray s 0 0 (hp_F B)) (F0 m 253 ls []) from lp253 _ _ _ _ ls  (y308) rfl hZ hP fx333 (by omega) (by omega) (lv_sub hl [0, 1, 2] rfl)
                intro k9
                induction k9 using Nat.strongRecOn with
                | _ k9 ih253 =>
                  intro V9 H9 locs9 ls  bh8 hk253 hZ hP ho334 hv335 hv336 hl
                  have hb_bh8 := hq_rng bh8
                  have hP_253 := hP
                  refine lv_iload_n hx hb dX13_scan_253 rfl (lv_at hl 0 rfl) ?_
                  refine lv_if_eq (tgt := 284) hx hb dX13_scan_254 (by decide) (fun c337 => ?_) (fun c337 => ?_)
                  · have c337 : (r329).toInt = (0 : Int) := hq_eqi.mp c337
                    refine lv_aload_n hx hb dX13_scan_284 rfl (lv_at hl 2 rfl) ?_
                    refine lv_iload_n hx hb dX13_scan_285 rfl (lv_at hl 0 rfl) ?_
                    refine lv_if_eq (tgt := 306) hx hb dX13_scan_286 (by decide) (fun c338 => ?_) (fun c338 => ?_)
                    · have c338 : (r329).toInt = (0 : Int) := hq_eqi.mp c338
                      refine lv_iload_n hx hb dX13_scan_306 rfl (lv_at hl 1 rfl) ?_
                      refine lv_bipush (v := 59) hx hb dX13_scan_307 (by decide) ?_
                      refine lv_icmp_ne (tgt := 316) hx hb dX13_scan_309 (by decide) (fun c339 => ?_) (fun c339 => ?_)
                      · have c339 : ¬ (r302).toInt = (59 : Int) := fun h9 => c339 (hq_eqi.mpr h9)
                        refine lv_iconst (v := 5) hx hb dX13_scan_316 (by decide) ?_
                        refine hp_put hx hb hts hown hZ ho334 fp_X13_83 rfl rfl (Nat.le_of_ble_eq_true rfl) dX13_scan_317 (fun V340 _ _ e341 o342 hZ => ?_)
                        have e341 : V340 (mo) = some (.inr (13, hm_o q (m_tp) (m_sz) (bh9) (bh8) (5) (m_ft) (m_fa) (m_le) (m_fo) (m_as) (m_fd) (m_bc) (m_bg) (m_bs) (m_be) (m_b0) (m_b1) (m_cm) (m_hc))) := e341
                        have hP := hP.put h_mo e341 o342 (trivial) rfl
                        have hl343 : (5 : Int32).toInt = 5 := by decide
                        exact hp_vret hx hb hr hlocks hZ ⟨rfl, hP, ⟨bh9, bh8, 5, e341, ⟨by omega, by omega, by omega, by omega, by omega, by omega⟩⟩⟩ dX13_scan_320
                      · have c339 : (r302).toInt = (59 : Int) := hq_eqi.mp c339
                        refine lv_iconst (v := 4) hx hb dX13_scan_312 (by decide) ?_
                        refine lv_goto (tgt := 317) hx hb dX13_scan_313 (by decide) ?_
                        refine hp_put hx hb hts hown hZ ho334 fp_X13_83 rfl rfl (Nat.le_of_ble_eq_true rfl) dX13_scan_317 (fun V344 _ _ e345 o346 hZ => ?_)
                        have e345 : V344 (mo) = some (.inr (13, hm_o q (m_tp) (m_sz) (bh9) (bh8) (4) (m_ft) (m_fa) (m_le) (m_fo) (m_as) (m_fd) (m_bc) (m_bg) (m_bs) (m_be) (m_b0) (m_b1) (m_cm) (m_hc))) := e345
                        have hP := hP.put h_mo e345 o346 (trivial) rfl
                        have hl347 : (4 : Int32).toInt = 4 := by decide
                        exact hp_vret hx hb hr hlocks hZ ⟨rfl, hP, ⟨bh9, bh8, 4, e345, ⟨by omega, by omega, by omega, by omega, by omega, by omega⟩⟩⟩ dX13_scan_320
                    · have c338 : ¬ (r329).toInt = (0 : Int) := fun h9 => c338 (hq_eqi.mpr h9)
                      refine lv_aload_n hx hb dX13_scan_289 rfl (lv_at hl 2 rfl) ?_
                      refine hp_get (v := .int (bh8)) hx hb hts hown hZ ho334 fl_X13_76 rfl dX13_scan_290 ?_
                      refine lv_aload_n hx hb dX13_scan_293 rfl (lv_at hl 2 rfl) ?_
                      refine hp_get (v := .int (bh9)) hx hb hts hown hZ ho334 fl_X13_60 rfl dX13_scan_294 ?_
                      refine lv_isub hx hb dX13_scan_297 ?_
                      refine lv_topi (fun y348 ey349 => ?_)
                      obtain ⟨k350, hk351, b352, b353⟩ := hq_sub (bh8) (bh9)
                      rw [← ey349] at hk351 b352 b353
                      have hk351 : (y348).toInt = (bh8).toInt - (bh9).toInt + k350 * 4294967296 := hk351
                      obtain rfl : k350 = 0 := by omega
                      refine lv_iconst (v := 1) hx hb dX13_scan_298 (by decide) ?_
                      refine lv_icmp_ne (tgt := 306) hx hb dX13_scan_299 (by decide) (fun c354 => ?_) (fun c354 => ?_)
                      · have c354 : ¬ (y348).toInt = (1 : Int) := fun h9 => c354 (hq_eqi.mpr h9)
                        refine lv_iload_n hx hb dX13_scan_306 rfl (lv_at hl 1 rfl) ?_
                        refine lv_bipush (v := 59) hx hb dX13_scan_307 (by decide) ?_
                        refine lv_icmp_ne (tgt := 316) hx hb dX13_scan_309 (by decide) (fun c355 => ?_) (fun c355 => ?_)
                        · have c355 : ¬ (r302).toInt = (59 : Int) := fun h9 => c355 (hq_eqi.mpr h9)
                          refine lv_iconst (v := 5) hx hb dX13_scan_316 (by decide) ?_
                          refine hp_put hx hb hts hown hZ ho334 fp_X13_83 rfl rfl (Nat.le_of_ble_eq_true rfl) dX13_scan_317 (fun V356 _ _ e357 o358 hZ => ?_)
                          have e357 : V356 (mo) = some (.inr (13, hm_o q (m_tp) (m_sz) (bh9) (bh8) (5) (m_ft) (m_fa) (m_le) (m_fo) (m_as) (m_fd) (m_bc) (m_bg) (m_bs) (m_be) (m_b0) (m_b1) (m_cm) (m_hc))) := e357
                          have hP := hP.put h_mo e357 o358 (trivial) rfl
                          have hl359 : (5 : Int32).toInt = 5 := by decide
                          exact hp_vret hx hb hr hlocks hZ ⟨rfl, hP, ⟨bh9, bh8, 5, e357, ⟨by omega, by omega, by omega, by omega, by omega, by omega⟩⟩⟩ dX13_scan_320
                        · have c355 : (r302).toInt = (59 : Int) := hq_eqi.mp c355
                          refine lv_iconst (v := 4) hx hb dX13_scan_312 (by decide) ?_
                          refine lv_goto (tgt := 317) hx hb dX13_scan_313 (by decide) ?_
                          refine hp_put hx hb hts hown hZ ho334 fp_X13_83 rfl rfl (Nat.le_of_ble_eq_true rfl) dX13_scan_317 (fun V360 _ _ e361 o362 hZ => ?_)
                          have e361 : V360 (mo) = some (.inr (13, hm_o q (m_tp) (m_sz) (bh9) (bh8) (4) (m_ft) (m_fa) (m_le) (m_fo) (m_as) (m_fd) (m_bc) (m_bg) (m_bs) (m_be) (m_b0) (m_b1) (m_cm) (m_hc))) := e361
                          have hP := hP.put h_mo e361 o362 (trivial) rfl
                          have hl363 : (4 : Int32).toInt = 4 := by decide
                          exact hp_vret hx hb hr hlocks hZ ⟨rfl, hP, ⟨bh9, bh8, 4, e361, ⟨by omega, by omega, by omega, by omega, by omega, by omega⟩⟩⟩ dX13_scan_320
                      · have c354 : (y348).toInt = (1 : Int) := hq_eqi.mp c354
                        refine lv_iconst (v := 2) hx hb dX13_scan_302 (by decide) ?_
                        refine lv_goto (tgt := 317) hx hb dX13_scan_303 (by decide) ?_
                        refine hp_put hx hb hts hown hZ ho334 fp_X13_83 rfl rfl (Nat.le_of_ble_eq_true rfl) dX13_scan_317 (fun V364 _ _ e365 o366 hZ => ?_)
                        have e365 : V364 (mo) = some (.inr (13, hm_o q (m_tp) (m_sz) (bh9) (bh8) (2) (m_ft) (m_fa) (m_le) (m_fo) (m_as) (m_fd) (m_bc) (m_bg) (m_bs) (m_be) (m_b0) (m_b1) (m_cm) (m_hc))) := e365
                        have hP := hP.put h_mo e365 o366 (trivial) rfl
                        have hl367 : (2 : Int32).toInt = 2 := by decide
                        exact hp_vret hx hb hr hlocks hZ ⟨rfl, hP, ⟨bh9, bh8, 2, e365, ⟨by omega, by omega, by omega, by omega, by omega, by omega⟩⟩⟩ dX13_scan_320
                  · have c337 : ¬ (r329).toInt = (0 : Int) := fun h9 => c337 (hq_eqi.mpr h9)
                    refine lv_aload_n hx hb dX13_scan_257 rfl (lv_at hl 2 rfl) ?_
                    refine lv_aload_n hx hb dX13_scan_258 rfl (lv_at hl 2 rfl) ?_
                    refine hp_get (v := .int (bh8)) hx hb hts hown hZ ho334 fl_X13_76 rfl dX13_scan_259 ?_
                    refine hp_calli (hp_runV (As := [.int (bh8)]) (rest := []) hx hb hml hown hts (t_X13_byteAt l D cs B G  V9 n hP.1 q hR (mo) h_mo (bh8) ho334  (by omega) (by omega) (by omega) (by omega) (by omega) (by omega) (by omega) (by omega) (by omega)) hZ ho334 cv_X13_79 rfl rfl ⟨Nat.le_of_ble_eq_true rfl, Nat.le_of_ble_eq_true rfl⟩ rfl hl.1 rfl (Nat.le_of_ble_eq_true rfl) dX13_scan_262 ⟨(Nat.le_of_ble_eq_true rfl), (Nat.le_of_ble_eq_true rfl)⟩) hZ (fun r371 V368 n369 _ _ hw370 hZ => ?_)
                    obtain ⟨rfl, hq372, ho374, hr373⟩ := hw370
                    have hP := hP.trans hq372 (fun _ _ => rfl)
                    have b375 := hq_rng r371
                    refine hp_calli (hp_runS (As := [.int (r371)]) (rest := []) hx hb hml hown hts (t_X13_isFigure l D cs B G  V368 n hP.1  (r371) ) hZ cv_X13_90 rfl rfl ⟨Nat.le_of_ble_eq_true rfl, Nat.le_of_ble_eq_true rfl⟩ rfl hl.1 rfl (Nat.le_of_ble_eq_true rfl) dX13_scan_265 ⟨(Nat.le_of_ble_eq_true rfl), (Nat.le_of_ble_eq_true rfl)⟩) hZ (fun r379 V376 n377 _ _ hw378 hZ => ?_)
                    obtain ⟨rfl, hq380, hr381⟩ := hw378
                    have hP := hP.trans hq380 (fun _ _ => rfl)
                    have b382 := hq_rng r379
                    refine lv_if_eq (tgt := 284) hx hb dX13_scan_268 (by decide) (fun c383 => ?_) (fun c383 => ?_)
                    · have c383 : (r379).toInt = (0 : Int) := hq_eqi.mp c383
                      refine lv_aload_n hx hb dX13_scan_284 rfl (lv_at hl 2 rfl) ?_
                      refine lv_iload_n hx hb dX13_scan_285 rfl (lv_at hl 0 rfl) ?_
                      refine lv_if_eq (tgt := 306) hx hb dX13_scan_286 (by decide) (fun c384 => ?_) (fun c384 => ?_)
                      · have c384 : (r329).toInt = (0 : Int) := hq_eqi.mp c384
                        refine lv_iload_n hx hb dX13_scan_306 rfl (lv_at hl 1 rfl) ?_
                        refine lv_bipush (v := 59) hx hb dX13_scan_307 (by decide) ?_
                        refine lv_icmp_ne (tgt := 316) hx hb dX13_scan_309 (by decide) (fun c385 => ?_) (fun c385 => ?_)
                        · have c385 : ¬ (r302).toInt = (59 : Int) := fun h9 => c385 (hq_eqi.mpr h9)
                          refine lv_iconst (v := 5) hx hb dX13_scan_316 (by decide) ?_
                          have fx386 : V376 (mo) = some (.inr (13, hm_o q (m_tp) (m_sz) (bh9) (bh8) (m_hd) (m_ft) (m_fa) (m_le) (m_fo) (m_as) (m_fd) (m_bc) (m_bg) (m_bs) (m_be) (m_b0) (m_b1) (m_cm) (m_hc))) := (hq380.2 (mo) _ h_mo rfl).trans (ho374)
                          refine hp_put hx hb hts hown hZ fx386 fp_X13_83 rfl rfl (Nat.le_of_ble_eq_true rfl) dX13_scan_317 (fun V387 _ _ e388 o389 hZ => ?_)
                          have e388 : V387 (mo) = some (.inr (13, hm_o q (m_tp) (m_sz) (bh9) (bh8) (5) (m_ft) (m_fa) (m_le) (m_fo) (m_as) (m_fd) (m_bc) (m_bg) (m_bs) (m_be) (m_b0) (m_b1) (m_cm) (m_hc))) := e388
                          have hP := hP.put h_mo e388 o389 (trivial) rfl
                          have hl390 : (5 : Int32).toInt = 5 := by decide
                          exact hp_vret hx hb hr hlocks hZ ⟨rfl, hP, ⟨bh9, bh8, 5, e388, ⟨by omega, by omega, by omega, by omega, by omega, by omega⟩⟩⟩ dX13_scan_320
                        · have c385 : (r302).toInt = (59 : Int) := hq_eqi.mp c385
                          refine lv_iconst (v := 4) hx hb dX13_scan_312 (by decide) ?_
                          refine lv_goto (tgt := 317) hx hb dX13_scan_313 (by decide) ?_
                          have fx391 : V376 (mo) = some (.inr (13, hm_o q (m_tp) (m_sz) (bh9) (bh8) (m_hd) (m_ft) (m_fa) (m_le) (m_fo) (m_as) (m_fd) (m_bc) (m_bg) (m_bs) (m_be) (m_b0) (m_b1) (m_cm) (m_hc))) := (hq380.2 (mo) _ h_mo rfl).trans (ho374)
                          refine hp_put hx hb hts hown hZ fx391 fp_X13_83 rfl rfl (Nat.le_of_ble_eq_true rfl) dX13_scan_317 (fun V392 _ _ e393 o394 hZ => ?_)
                          have e393 : V392 (mo) = some (.inr (13, hm_o q (m_tp) (m_sz) (bh9) (bh8) (4) (m_ft) (m_fa) (m_le) (m_fo) (m_as) (m_fd) (m_bc) (m_bg) (m_bs) (m_be) (m_b0) (m_b1) (m_cm) (m_hc))) := e393
                          have hP := hP.put h_mo e393 o394 (trivial) rfl
                          have hl395 : (4 : Int32).toInt = 4 := by decide
                          exact hp_vret hx hb hr hlocks hZ ⟨rfl, hP, ⟨bh9, bh8, 4, e393, ⟨by omega, by omega, by omega, by omega, by omega, by omega⟩⟩⟩ dX13_scan_320
                      · have c384 : ¬ (r329).toInt = (0 : Int) := fun h9 => c384 (hq_eqi.mpr h9)
                        refine lv_aload_n hx hb dX13_scan_289 rfl (lv_at hl 2 rfl) ?_
                        have fx396 : V376 (mo) = some (.inr (13, hm_o q (m_tp) (m_sz) (bh9) (bh8) (m_hd) (m_ft) (m_fa) (m_le) (m_fo) (m_as) (m_fd) (m_bc) (m_bg) (m_bs) (m_be) (m_b0) (m_b1) (m_cm) (m_hc))) := (hq380.2 (mo) _ h_mo rfl).trans (ho374)
                        refine hp_get (v := .int (bh8)) hx hb hts hown hZ fx396 fl_X13_76 rfl dX13_scan_290 ?_
                        refine lv_aload_n hx hb dX13_scan_293 rfl (lv_at hl 2 rfl) ?_
                        refine hp_get (v := .int (bh9)) hx hb hts hown hZ fx396 fl_X13_60 rfl dX13_scan_294 ?_
                        refine lv_isub hx hb dX13_scan_297 ?_
                        refine lv_topi (fun y397 ey398 => ?_)
                        obtain ⟨k399, hk400, b401, b402⟩ := hq_sub (bh8) (bh9)
                        rw [← ey398] at hk400 b401 b402
                        have hk400 : (y397).toInt = (bh8).toInt - (bh9).toInt + k399 * 4294967296 := hk400
                        obtain rfl : k399 = 0 := by omega
                        refine lv_iconst (v := 1) hx hb dX13_scan_298 (by decide) ?_
                        refine lv_icmp_ne (tgt := 306) hx hb dX13_scan_299 (by decide) (fun c403 => ?_) (fun c403 => ?_)
                        · have c403 : ¬ (y397).toInt = (1 : Int) := fun h9 => c403 (hq_eqi.mpr h9)
                          refine lv_iload_n hx hb dX13_scan_306 rfl (lv_at hl 1 rfl) ?_
                          refine lv_bipush (v := 59) hx hb dX13_scan_307 (by decide) ?_
                          refine lv_icmp_ne (tgt := 316) hx hb dX13_scan_309 (by decide) (fun c404 => ?_) (fun c404 => ?_)
                          · have c404 : ¬ (r302).toInt = (59 : Int) := fun h9 => c404 (hq_eqi.mpr h9)
                            refine lv_iconst (v := 5) hx hb dX13_scan_316 (by decide) ?_
                            refine hp_put hx hb hts hown hZ fx396 fp_X13_83 rfl rfl (Nat.le_of_ble_eq_true rfl) dX13_scan_317 (fun V405 _ _ e406 o407 hZ => ?_)
                            have e406 : V405 (mo) = some (.inr (13, hm_o q (m_tp) (m_sz) (bh9) (bh8) (5) (m_ft) (m_fa) (m_le) (m_fo) (m_as) (m_fd) (m_bc) (m_bg) (m_bs) (m_be) (m_b0) (m_b1) (m_cm) (m_hc))) := e406
                            have hP := hP.put h_mo e406 o407 (trivial) rfl
                            have hl408 : (5 : Int32).toInt = 5 := by decide
                            exact hp_vret hx hb hr hlocks hZ ⟨rfl, hP, ⟨bh9, bh8, 5, e406, ⟨by omega, by omega, by omega, by omega, by omega, by omega⟩⟩⟩ dX13_scan_320
                          · have c404 : (r302).toInt = (59 : Int) := hq_eqi.mp c404
                            refine lv_iconst (v := 4) hx hb dX13_scan_312 (by decide) ?_
                            refine lv_goto (tgt := 317) hx hb dX13_scan_313 (by decide) ?_
                            refine hp_put hx hb hts hown hZ fx396 fp_X13_83 rfl rfl (Nat.le_of_ble_eq_true rfl) dX13_scan_317 (fun V409 _ _ e410 o411 hZ => ?_)
                            have e410 : V409 (mo) = some (.inr (13, hm_o q (m_tp) (m_sz) (bh9) (bh8) (4) (m_ft) (m_fa) (m_le) (m_fo) (m_as) (m_fd) (m_bc) (m_bg) (m_bs) (m_be) (m_b0) (m_b1) (m_cm) (m_hc))) := e410
                            have hP := hP.put h_mo e410 o411 (trivial) rfl
                            have hl412 : (4 : Int32).toInt = 4 := by decide
                            exact hp_vret hx hb hr hlocks hZ ⟨rfl, hP, ⟨bh9, bh8, 4, e410, ⟨by omega, by omega, by omega, by omega, by omega, by omega⟩⟩⟩ dX13_scan_320
                        · have c403 : (y397).toInt = (1 : Int) := hq_eqi.mp c403
                          refine lv_iconst (v := 2) hx hb dX13_scan_302 (by decide) ?_
                          refine lv_goto (tgt := 317) hx hb dX13_scan_303 (by decide) ?_
                          refine hp_put hx hb hts hown hZ fx396 fp_X13_83 rfl rfl (Nat.le_of_ble_eq_true rfl) dX13_scan_317 (fun V413 _ _ e414 o415 hZ => ?_)
                          have e414 : V413 (mo) = some (.inr (13, hm_o q (m_tp) (m_sz) (bh9) (bh8) (2) (m_ft) (m_fa) (m_le) (m_fo) (m_as) (m_fd) (m_bc) (m_bg) (m_bs) (m_be) (m_b0) (m_b1) (m_cm) (m_hc))) := e414
                          have hP := hP.put h_mo e414 o415 (trivial) rfl
                          have hl416 : (2 : Int32).toInt = 2 := by decide
                          exact hp_vret hx hb hr hlocks hZ ⟨rfl, hP, ⟨bh9, bh8, 2, e414, ⟨by omega, by omega, by omega, by omega, by omega, by omega⟩⟩⟩ dX13_scan_320
                    · have c383 : ¬ (r379).toInt = (0 : Int) := fun h9 => c383 (hq_eqi.mpr h9)
                      refine lv_aload_n hx hb dX13_scan_271 rfl (lv_at hl 2 rfl) ?_
                      refine lv_dup hx hb dX13_scan_272 rfl ?_
                      have fx417 : V376 (mo) = some (.inr (13, hm_o q (m_tp) (m_sz) (bh9) (bh8) (m_hd) (m_ft) (m_fa) (m_le) (m_fo) (m_as) (m_fd) (m_bc) (m_bg) (m_bs) (m_be) (m_b0) (m_b1) (m_cm) (m_hc))) := (hq380.2 (mo) _ h_mo rfl).trans (ho374)
                      refine hp_get (v := .int (bh8)) hx hb hts hown hZ fx417 fl_X13_76 rfl dX13_scan_273 ?_
                      refine lv_iconst (v := 1) hx hb dX13_scan_276 (by decide) ?_
                      refine lv_iadd hx hb dX13_scan_277 ?_
                      refine lv_topi (fun y418 ey419 => ?_)
                      obtain ⟨k420, hk421, b422, b423⟩ := hq_add (bh8) (1)
                      rw [← ey419] at hk421 b422 b423
                      have hk421 : (y418).toInt = (bh8).toInt + (1 : Int) + k420 * 4294967296 := hk421
                      obtain rfl : k420 = 0 := by omega
                      refine hp_put hx hb hts hown hZ fx417 fp_X13_76 rfl rfl (Nat.le_of_ble_eq_true rfl) dX13_scan_278 (fun V424 _ _ e425 o426 hZ => ?_)
                      have e425 : V424 (mo) = some (.inr (13, hm_o q (m_tp) (m_sz) (bh9) (y418) (m_hd) (m_ft) (m_fa) (m_le) (m_fo) (m_as) (m_fd) (m_bc) (m_bg) (m_bs) (m_be) (m_b0) (m_b1) (m_cm) (m_hc))) := e425
                      have hP := hP.put h_mo e425 o426 (trivial) rfl
                      refine lv_goto (tgt := 253) hx hb dX13_scan_281 (by decide) ?_
                      exact ih253 _ (by omega) _ _ _ ls  (y418) rfl hZ hP e425 (by omega) (by omega) (lv_sub hl [0, 1, 2] rfl)
              · have c325 : (r302).toInt = (39 : Int) := hq_eqi.mp c325
                have fx427 : V317 (mo) = some (.inr (13, hm_o q (m_tp) (m_sz) (bh9) (y308) (m_hd) (m_ft) (m_fa) (m_le) (m_fo) (m_as) (m_fd) (m_bc) (m_bg) (m_bs) (m_be) (m_b0) (m_b1) (m_cm) (m_hc))) := (hq321.2 (mo) _ h_mo rfl).trans (e315)
                suffices lp162 : ∀ (k9 : Nat) (V9 : hp_V) (H9 : Heap) (locs9 : List Loc) (ls : Array Slot)  (bh8 : Int32), (5000 - bh8.toInt).toNat = k9 → hp_Z D cs B s V9 H9 n locs9 → hq_P cs G (fun g => g.1 == 1) V V9 → V9 (mo) = some (.inr (13, hm_o q (m_tp) (m_sz) (bh9) (bh8) (m_hd) (m_ft) (m_fa) (m_le) (m_fo) (m_as) (m_fd) (m_bc) (m_bg) (m_bs) (m_be) (m_b0) (m_b1) (m_cm) (m_hc))) → bh9.toInt + 1 ≤ bh8.toInt → bh8.toInt ≤ m_sz.toInt → lv_has ls 3 [(1, .int (r302)), (0, .ref (mo))] → W p l e ({ frames := 2, cells := 0, slots := 0, locals := 42 }) s m ([.ref (mo)] : List Value).toArray below meth c H9 locs9 0 0 (MQ below (hp_QV D cs B (fun V' n' => n = n' ∧ hq_P cs G (fun g => g.1 == 1) V V' ∧ (∃ (m_fr1 : Int32) (m_bh1 : Int32) (m_hd1 : Int32), V' mo = some (.inr (13, hm_o q (m_tp) (m_sz) (m_fr1) (m_bh1) (m_hd1) (m_ft) (m_fa) (m_le) (m_fo) (m_as) (m_fd) (m_bc) (m_bg) (m_bs) (m_be) (m_b0) (m_b1) (m_cm) (m_hc))) ∧ (hm_SC m_sz m_fr1 m_bh1 m_hd1)))) ([.ref (mo)] : List Value).toArray s 0 0 (hp_F B)) (F0 m 162 ls []) from lp162 _ _ _ _ ls  (y308) rfl hZ hP fx427 (by omega) (by omega) (lv_sub hl [0, 1] rfl)
                intro k9
                induction k9 using Nat.strongRecOn with
                | _ k9 ih162 =>
                  intro V9 H9 locs9 ls  bh8 hk162 hZ hP ho428 hv429 hv430 hl
                  have hb_bh8 := hq_rng bh8
                  have hP_162 := hP
                  refine lv_aload_n hx hb dX13_scan_162 rfl (lv_at hl 1 rfl) ?_
                  refine lv_aload_n hx hb dX13_scan_163 rfl (lv_at hl 1 rfl) ?_
                  refine hp_get (v := .int (bh8)) hx hb hts hown hZ ho428 fl_X13_76 rfl dX13_scan_164 ?_
                  refine hp_calli (hp_runV (As := [.int (bh8)]) (rest := []) hx hb hml hown hts (t_X13_byteAt l D cs B G  V9 n hP.1 q hR (mo) h_mo (bh8) ho428  (by omega) (by omega) (by omega) (by omega) (by omega) (by omega) (by omega) (by omega) (by omega)) hZ ho428 cv_X13_79 rfl rfl ⟨Nat.le_of_ble_eq_true rfl, Nat.le_of_ble_eq_true rfl⟩ rfl hl.1 rfl (Nat.le_of_ble_eq_true rfl) dX13_scan_167 ⟨(Nat.le_of_ble_eq_true rfl), (Nat.le_of_ble_eq_true rfl)⟩) hZ (fun r434 V431 n432 _ _ hw433 hZ => ?_)
                  obtain ⟨rfl, hq435, ho437, hr436⟩ := hw433
                  have hP := hP.trans hq435 (fun _ _ => rfl)
                  have b438 := hq_rng r434
                  refine hp_calli (hp_runS (As := [.int (r434)]) (rest := []) hx hb hml hown hts (t_X13_isSmall l D cs B G  V431 n hP.1  (r434) ) hZ cv_X13_86 rfl rfl ⟨Nat.le_of_ble_eq_true rfl, Nat.le_of_ble_eq_true rfl⟩ rfl hl.1 rfl (Nat.le_of_ble_eq_true rfl) dX13_scan_170 ⟨(Nat.le_of_ble_eq_true rfl), (Nat.le_of_ble_eq_true rfl)⟩) hZ (fun r442 V439 n440 _ _ hw441 hZ => ?_)
                  obtain ⟨rfl, hq443, hr444⟩ := hw441
                  have hP := hP.trans hq443 (fun _ _ => rfl)
                  have b445 := hq_rng r442
                  refine lv_if_eq (tgt := 189) hx hb dX13_scan_173 (by decide) (fun c446 => ?_) (fun c446 => ?_)
                  · have c446 : (r442).toInt = (0 : Int) := hq_eqi.mp c446
                    refine lv_aload_n hx hb dX13_scan_189 rfl (lv_at hl 1 rfl) ?_
                    refine lv_aload_n hx hb dX13_scan_190 rfl (lv_at hl 1 rfl) ?_
                    have fx447 : V439 (mo) = some (.inr (13, hm_o q (m_tp) (m_sz) (bh9) (bh8) (m_hd) (m_ft) (m_fa) (m_le) (m_fo) (m_as) (m_fd) (m_bc) (m_bg) (m_bs) (m_be) (m_b0) (m_b1) (m_cm) (m_hc))) := (hq443.2 (mo) _ h_mo rfl).trans (ho437)
                    refine hp_get (v := .int (bh8)) hx hb hts hown hZ fx447 fl_X13_76 rfl dX13_scan_191 ?_
                    refine hp_calli (hp_runV (As := [.int (bh8)]) (rest := []) hx hb hml hown hts (t_X13_byteAt l D cs B G  V439 n hP.1 q hR (mo) h_mo (bh8) fx447  (by omega) (by omega) (by omega) (by omega) (by omega) (by omega) (by omega) (by omega) (by omega)) hZ fx447 cv_X13_79 rfl rfl ⟨Nat.le_of_ble_eq_true rfl, Nat.le_of_ble_eq_true rfl⟩ rfl hl.1 rfl (Nat.le_of_ble_eq_true rfl) dX13_scan_194 ⟨(Nat.le_of_ble_eq_true rfl), (Nat.le_of_ble_eq_true rfl)⟩) hZ (fun r451 V448 n449 _ _ hw450 hZ => ?_)
                    obtain ⟨rfl, hq452, ho454, hr453⟩ := hw450
                    have hP := hP.trans hq452 (fun _ _ => rfl)
                    have b455 := hq_rng r451
                    refine lv_bipush (v := 39) hx hb dX13_scan_197 (by decide) ?_
                    refine lv_icmp_ne (tgt := 220) hx hb dX13_scan_199 (by decide) (fun c456 => ?_) (fun c456 => ?_)
                    · have c456 : ¬ (r451).toInt = (39 : Int) := fun h9 => c456 (hq_eqi.mpr h9)
                      refine lv_iconst (v := 0) hx hb dX13_scan_220 (by decide) ?_
                      refine lv_istore_n (lv' := [(2, .int (0)), (1, .int (r302)), (0, .ref (mo))]) hx hb dX13_scan_221 rfl hl (by decide) rfl (fun ls hl => ?_)
                      refine lv_aload_n hx hb dX13_scan_222 rfl (lv_at hl 2 rfl) ?_
                      refine lv_iload_n hx hb dX13_scan_223 rfl (lv_at hl 0 rfl) ?_
                      refine lv_if_eq (tgt := 231) hx hb dX13_scan_224 (by decide) (fun c457 => ?_) (fun c457 => absurd (by decide) c457)
                      refine lv_iconst (v := 5) hx hb dX13_scan_231 (by decide) ?_
                      refine hp_put hx hb hts hown hZ ho454 fp_X13_83 rfl rfl (Nat.le_of_ble_eq_true rfl) dX13_scan_232 (fun V458 _ _ e459 o460 hZ => ?_)
                      have e459 : V458 (mo) = some (.inr (13, hm_o q (m_tp) (m_sz) (bh9) (bh8) (5) (m_ft) (m_fa) (m_le) (m_fo) (m_as) (m_fd) (m_bc) (m_bg) (m_bs) (m_be) (m_b0) (m_b1) (m_cm) (m_hc))) := e459
                      have hP := hP.put h_mo e459 o460 (trivial) rfl
                      refine lv_aload_n hx hb dX13_scan_235 rfl (lv_at hl 2 rfl) ?_
                      refine lv_dup hx hb dX13_scan_236 rfl ?_
                      refine hp_get (v := .int (bh8)) hx hb hts hown hZ e459 fl_X13_76 rfl dX13_scan_237 ?_
                      refine lv_iconst (v := 1) hx hb dX13_scan_240 (by decide) ?_
                      refine lv_iadd hx hb dX13_scan_241 ?_
                      refine lv_topi (fun y461 ey462 => ?_)
                      obtain ⟨k463, hk464, b465, b466⟩ := hq_add (bh8) (1)
                      rw [← ey462] at hk464 b465 b466
                      have hk464 : (y461).toInt = (bh8).toInt + (1 : Int) + k463 * 4294967296 := hk464
                      obtain rfl : k463 = 0 := by omega
                      refine hp_put hx hb hts hown hZ e459 fp_X13_76 rfl rfl (Nat.le_of_ble_eq_true rfl) dX13_scan_242 (fun V467 _ _ e468 o469 hZ => ?_)
                      have e468 : V467 (mo) = some (.inr (13, hm_o q (m_tp) (m_sz) (bh9) (y461) (5) (m_ft) (m_fa) (m_le) (m_fo) (m_as) (m_fd) (m_bc) (m_bg) (m_bs) (m_be) (m_b0) (m_b1) (m_cm) (m_hc))) := e468
                      have hP := hP.put h_mo e468 o469 (trivial) rfl
                      refine lv_goto (tgt := 320) hx hb dX13_scan_245 (by decide) ?_
                      have hl470 : (5 : Int32).toInt = 5 := by decide
                      exact hp_vret hx hb hr hlocks hZ ⟨rfl, hP, ⟨bh9, y461, 5, e468, ⟨by omega, by omega, by omega, by omega, by omega, by omega⟩⟩⟩ dX13_scan_320
                    · have c456 : (r451).toInt = (39 : Int) := hq_eqi.mp c456
                      refine lv_aload_n hx hb dX13_scan_202 rfl (lv_at hl 1 rfl) ?_
                      refine hp_get (v := .int (bh8)) hx hb hts hown hZ ho454 fl_X13_76 rfl dX13_scan_203 ?_
                      refine lv_aload_n hx hb dX13_scan_206 rfl (lv_at hl 1 rfl) ?_
                      refine hp_get (v := .int (bh9)) hx hb hts hown hZ ho454 fl_X13_60 rfl dX13_scan_207 ?_
                      refine lv_isub hx hb dX13_scan_210 ?_
                      refine lv_topi (fun y471 ey472 => ?_)
                      obtain ⟨k473, hk474, b475, b476⟩ := hq_sub (bh8) (bh9)
                      rw [← ey472] at hk474 b475 b476
                      have hk474 : (y471).toInt = (bh8).toInt - (bh9).toInt + k473 * 4294967296 := hk474
                      obtain rfl : k473 = 0 := by omega
                      refine lv_bipush (v := 9) hx hb dX13_scan_211 (by decide) ?_
                      refine lv_icmp_gt (tgt := 220) hx hb dX13_scan_213 (by decide) (fun c477 => ?_) (fun c477 => ?_)
                      · have c477 : (9 : Int) < (y471).toInt := hq_lti.mp c477
                        refine lv_iconst (v := 0) hx hb dX13_scan_220 (by decide) ?_
                        refine lv_istore_n (lv' := [(2, .int (0)), (1, .int (r302)), (0, .ref (mo))]) hx hb dX13_scan_221 rfl hl (by decide) rfl (fun ls hl => ?_)
                        refine lv_aload_n hx hb dX13_scan_222 rfl (lv_at hl 2 rfl) ?_
                        refine lv_iload_n hx hb dX13_scan_223 rfl (lv_at hl 0 rfl) ?_
                        refine lv_if_eq (tgt := 231) hx hb dX13_scan_224 (by decide) (fun c478 => ?_) (fun c478 => absurd (by decide) c478)
                        refine lv_iconst (v := 5) hx hb dX13_scan_231 (by decide) ?_
                        refine hp_put hx hb hts hown hZ ho454 fp_X13_83 rfl rfl (Nat.le_of_ble_eq_true rfl) dX13_scan_232 (fun V479 _ _ e480 o481 hZ => ?_)
                        have e480 : V479 (mo) = some (.inr (13, hm_o q (m_tp) (m_sz) (bh9) (bh8) (5) (m_ft) (m_fa) (m_le) (m_fo) (m_as) (m_fd) (m_bc) (m_bg) (m_bs) (m_be) (m_b0) (m_b1) (m_cm) (m_hc))) := e480
                        have hP := hP.put h_mo e480 o481 (trivial) rfl
                        refine lv_aload_n hx hb dX13_scan_235 rfl (lv_at hl 2 rfl) ?_
                        refine lv_dup hx hb dX13_scan_236 rfl ?_
                        refine hp_get (v := .int (bh8)) hx hb hts hown hZ e480 fl_X13_76 rfl dX13_scan_237 ?_
                        refine lv_iconst (v := 1) hx hb dX13_scan_240 (by decide) ?_
                        refine lv_iadd hx hb dX13_scan_241 ?_
                        refine lv_topi (fun y482 ey483 => ?_)
                        obtain ⟨k484, hk485, b486, b487⟩ := hq_add (bh8) (1)
                        rw [← ey483] at hk485 b486 b487
                        have hk485 : (y482).toInt = (bh8).toInt + (1 : Int) + k484 * 4294967296 := hk485
                        obtain rfl : k484 = 0 := by omega
                        refine hp_put hx hb hts hown hZ e480 fp_X13_76 rfl rfl (Nat.le_of_ble_eq_true rfl) dX13_scan_242 (fun V488 _ _ e489 o490 hZ => ?_)
                        have e489 : V488 (mo) = some (.inr (13, hm_o q (m_tp) (m_sz) (bh9) (y482) (5) (m_ft) (m_fa) (m_le) (m_fo) (m_as) (m_fd) (m_bc) (m_bg) (m_bs) (m_be) (m_b0) (m_b1) (m_cm) (m_hc))) := e489
                        have hP := hP.put h_mo e489 o490 (trivial) rfl
                        refine lv_goto (tgt := 320) hx hb dX13_scan_245 (by decide) ?_
                        have hl491 : (5 : Int32).toInt = 5 := by decide
                        exact hp_vret hx hb hr hlocks hZ ⟨rfl, hP, ⟨bh9, y482, 5, e489, ⟨by omega, by omega, by omega, by omega, by omega, by omega⟩⟩⟩ dX13_scan_320
                      · have c477 : ¬ (9 : Int) < (y471).toInt := fun h9 => c477 (hq_lti.mpr h9)
                        refine lv_iconst (v := 1) hx hb dX13_scan_216 (by decide) ?_
                        refine lv_goto (tgt := 221) hx hb dX13_scan_217 (by decide) ?_
                        refine lv_istore_n (lv' := [(2, .int (1)), (1, .int (r302)), (0, .ref (mo))]) hx hb dX13_scan_221 rfl hl (by decide) rfl (fun ls hl => ?_)
                        refine lv_aload_n hx hb dX13_scan_222 rfl (lv_at hl 2 rfl) ?_
                        refine lv_iload_n hx hb dX13_scan_223 rfl (lv_at hl 0 rfl) ?_
                        refine lv_if_eq (tgt := 231) hx hb dX13_scan_224 (by decide) (fun c492 => absurd c492 (by decide)) (fun c492 => ?_)
                        refine lv_iconst (v := 3) hx hb dX13_scan_227 (by decide) ?_
                        refine lv_goto (tgt := 232) hx hb dX13_scan_228 (by decide) ?_
                        refine hp_put hx hb hts hown hZ ho454 fp_X13_83 rfl rfl (Nat.le_of_ble_eq_true rfl) dX13_scan_232 (fun V493 _ _ e494 o495 hZ => ?_)
                        have e494 : V493 (mo) = some (.inr (13, hm_o q (m_tp) (m_sz) (bh9) (bh8) (3) (m_ft) (m_fa) (m_le) (m_fo) (m_as) (m_fd) (m_bc) (m_bg) (m_bs) (m_be) (m_b0) (m_b1) (m_cm) (m_hc))) := e494
                        have hP := hP.put h_mo e494 o495 (trivial) rfl
                        refine lv_aload_n hx hb dX13_scan_235 rfl (lv_at hl 2 rfl) ?_
                        refine lv_dup hx hb dX13_scan_236 rfl ?_
                        refine hp_get (v := .int (bh8)) hx hb hts hown hZ e494 fl_X13_76 rfl dX13_scan_237 ?_
                        refine lv_iconst (v := 1) hx hb dX13_scan_240 (by decide) ?_
                        refine lv_iadd hx hb dX13_scan_241 ?_
                        refine lv_topi (fun y496 ey497 => ?_)
                        obtain ⟨k498, hk499, b500, b501⟩ := hq_add (bh8) (1)
                        rw [← ey497] at hk499 b500 b501
                        have hk499 : (y496).toInt = (bh8).toInt + (1 : Int) + k498 * 4294967296 := hk499
                        obtain rfl : k498 = 0 := by omega
                        refine hp_put hx hb hts hown hZ e494 fp_X13_76 rfl rfl (Nat.le_of_ble_eq_true rfl) dX13_scan_242 (fun V502 _ _ e503 o504 hZ => ?_)
                        have e503 : V502 (mo) = some (.inr (13, hm_o q (m_tp) (m_sz) (bh9) (y496) (3) (m_ft) (m_fa) (m_le) (m_fo) (m_as) (m_fd) (m_bc) (m_bg) (m_bs) (m_be) (m_b0) (m_b1) (m_cm) (m_hc))) := e503
                        have hP := hP.put h_mo e503 o504 (trivial) rfl
                        refine lv_goto (tgt := 320) hx hb dX13_scan_245 (by decide) ?_
                        have hl505 : (3 : Int32).toInt = 3 := by decide
                        exact hp_vret hx hb hr hlocks hZ ⟨rfl, hP, ⟨bh9, y496, 3, e503, ⟨by omega, by omega, by omega, by omega, by omega, by omega⟩⟩⟩ dX13_scan_320
                  · have c446 : ¬ (r442).toInt = (0 : Int) := fun h9 => c446 (hq_eqi.mpr h9)
                    refine lv_aload_n hx hb dX13_scan_176 rfl (lv_at hl 1 rfl) ?_
                    refine lv_dup hx hb dX13_scan_177 rfl ?_
                    have fx506 : V439 (mo) = some (.inr (13, hm_o q (m_tp) (m_sz) (bh9) (bh8) (m_hd) (m_ft) (m_fa) (m_le) (m_fo) (m_as) (m_fd) (m_bc) (m_bg) (m_bs) (m_be) (m_b0) (m_b1) (m_cm) (m_hc))) := (hq443.2 (mo) _ h_mo rfl).trans (ho437)
                    refine hp_get (v := .int (bh8)) hx hb hts hown hZ fx506 fl_X13_76 rfl dX13_scan_178 ?_
                    refine lv_iconst (v := 1) hx hb dX13_scan_181 (by decide) ?_
                    refine lv_iadd hx hb dX13_scan_182 ?_
                    refine lv_topi (fun y507 ey508 => ?_)
                    obtain ⟨k509, hk510, b511, b512⟩ := hq_add (bh8) (1)
                    rw [← ey508] at hk510 b511 b512
                    have hk510 : (y507).toInt = (bh8).toInt + (1 : Int) + k509 * 4294967296 := hk510
                    obtain rfl : k509 = 0 := by omega
                    refine hp_put hx hb hts hown hZ fx506 fp_X13_76 rfl rfl (Nat.le_of_ble_eq_true rfl) dX13_scan_183 (fun V513 _ _ e514 o515 hZ => ?_)
                    have e514 : V513 (mo) = some (.inr (13, hm_o q (m_tp) (m_sz) (bh9) (y507) (m_hd) (m_ft) (m_fa) (m_le) (m_fo) (m_as) (m_fd) (m_bc) (m_bg) (m_bs) (m_be) (m_b0) (m_b1) (m_cm) (m_hc))) := e514
                    have hP := hP.put h_mo e514 o515 (trivial) rfl
                    refine lv_goto (tgt := 162) hx hb dX13_scan_186 (by decide) ?_
                    exact ih162 _ (by omega) _ _ _ ls  (y507) rfl hZ hP e514 (by omega) (by omega) (lv_sub hl [0, 1] rfl)
            · have c324 : ¬ (r320).toInt = (0 : Int) := fun h9 => c324 (hq_eqi.mpr h9)
              have fx516 : V317 (mo) = some (.inr (13, hm_o q (m_tp) (m_sz) (bh9) (y308) (m_hd) (m_ft) (m_fa) (m_le) (m_fo) (m_as) (m_fd) (m_bc) (m_bg) (m_bs) (m_be) (m_b0) (m_b1) (m_cm) (m_hc))) := (hq321.2 (mo) _ h_mo rfl).trans (e315)
              suffices lp103 : ∀ (k9 : Nat) (V9 : hp_V) (H9 : Heap) (locs9 : List Loc) (ls : Array Slot)  (bh8 : Int32), (5000 - bh8.toInt).toNat = k9 → hp_Z D cs B s V9 H9 n locs9 → hq_P cs G (fun g => g.1 == 1) V V9 → V9 (mo) = some (.inr (13, hm_o q (m_tp) (m_sz) (bh9) (bh8) (m_hd) (m_ft) (m_fa) (m_le) (m_fo) (m_as) (m_fd) (m_bc) (m_bg) (m_bs) (m_be) (m_b0) (m_b1) (m_cm) (m_hc))) → bh9.toInt + 1 ≤ bh8.toInt → bh8.toInt ≤ m_sz.toInt → lv_has ls 3 [(1, .int (r302)), (0, .ref (mo))] → W p l e ({ frames := 2, cells := 0, slots := 0, locals := 42 }) s m ([.ref (mo)] : List Value).toArray below meth c H9 locs9 0 0 (MQ below (hp_QV D cs B (fun V' n' => n = n' ∧ hq_P cs G (fun g => g.1 == 1) V V' ∧ (∃ (m_fr1 : Int32) (m_bh1 : Int32) (m_hd1 : Int32), V' mo = some (.inr (13, hm_o q (m_tp) (m_sz) (m_fr1) (m_bh1) (m_hd1) (m_ft) (m_fa) (m_le) (m_fo) (m_as) (m_fd) (m_bc) (m_bg) (m_bs) (m_be) (m_b0) (m_b1) (m_cm) (m_hc))) ∧ (hm_SC m_sz m_fr1 m_bh1 m_hd1)))) ([.ref (mo)] : List Value).toArray s 0 0 (hp_F B)) (F0 m 103 ls []) from lp103 _ _ _ _ ls  (y308) rfl hZ hP fx516 (by omega) (by omega) (lv_sub hl [0, 1] rfl)
              intro k9
              induction k9 using Nat.strongRecOn with
              | _ k9 ih103 =>
                intro V9 H9 locs9 ls  bh8 hk103 hZ hP ho517 hv518 hv519 hl
                have hb_bh8 := hq_rng bh8
                have hP_103 := hP
                refine lv_aload_n hx hb dX13_scan_103 rfl (lv_at hl 1 rfl) ?_
                refine lv_aload_n hx hb dX13_scan_104 rfl (lv_at hl 1 rfl) ?_
                refine hp_get (v := .int (bh8)) hx hb hts hown hZ ho517 fl_X13_76 rfl dX13_scan_105 ?_
                refine hp_calli (hp_runV (As := [.int (bh8)]) (rest := []) hx hb hml hown hts (t_X13_byteAt l D cs B G  V9 n hP.1 q hR (mo) h_mo (bh8) ho517  (by omega) (by omega) (by omega) (by omega) (by omega) (by omega) (by omega) (by omega) (by omega)) hZ ho517 cv_X13_79 rfl rfl ⟨Nat.le_of_ble_eq_true rfl, Nat.le_of_ble_eq_true rfl⟩ rfl hl.1 rfl (Nat.le_of_ble_eq_true rfl) dX13_scan_108 ⟨(Nat.le_of_ble_eq_true rfl), (Nat.le_of_ble_eq_true rfl)⟩) hZ (fun r523 V520 n521 _ _ hw522 hZ => ?_)
                obtain ⟨rfl, hq524, ho526, hr525⟩ := hw522
                have hP := hP.trans hq524 (fun _ _ => rfl)
                have b527 := hq_rng r523
                refine hp_calli (hp_runS (As := [.int (r523)]) (rest := []) hx hb hml hown hts (t_X13_isSmall l D cs B G  V520 n hP.1  (r523) ) hZ cv_X13_86 rfl rfl ⟨Nat.le_of_ble_eq_true rfl, Nat.le_of_ble_eq_true rfl⟩ rfl hl.1 rfl (Nat.le_of_ble_eq_true rfl) dX13_scan_111 ⟨(Nat.le_of_ble_eq_true rfl), (Nat.le_of_ble_eq_true rfl)⟩) hZ (fun r531 V528 n529 _ _ hw530 hZ => ?_)
                obtain ⟨rfl, hq532, hr533⟩ := hw530
                have hP := hP.trans hq532 (fun _ _ => rfl)
                have b534 := hq_rng r531
                refine lv_if_eq (tgt := 130) hx hb dX13_scan_114 (by decide) (fun c535 => ?_) (fun c535 => ?_)
                · have c535 : (r531).toInt = (0 : Int) := hq_eqi.mp c535
                  refine lv_aload_n hx hb dX13_scan_130 rfl (lv_at hl 1 rfl) ?_
                  refine lv_aload_n hx hb dX13_scan_131 rfl (lv_at hl 1 rfl) ?_
                  have fx536 : V528 (mo) = some (.inr (13, hm_o q (m_tp) (m_sz) (bh9) (bh8) (m_hd) (m_ft) (m_fa) (m_le) (m_fo) (m_as) (m_fd) (m_bc) (m_bg) (m_bs) (m_be) (m_b0) (m_b1) (m_cm) (m_hc))) := (hq532.2 (mo) _ h_mo rfl).trans (ho526)
                  refine hp_get (v := .int (bh8)) hx hb hts hown hZ fx536 fl_X13_76 rfl dX13_scan_132 ?_
                  refine lv_aload_n hx hb dX13_scan_135 rfl (lv_at hl 1 rfl) ?_
                  refine hp_get (v := .int (bh9)) hx hb hts hown hZ fx536 fl_X13_60 rfl dX13_scan_136 ?_
                  refine lv_isub hx hb dX13_scan_139 ?_
                  refine lv_topi (fun y537 ey538 => ?_)
                  obtain ⟨k539, hk540, b541, b542⟩ := hq_sub (bh8) (bh9)
                  rw [← ey538] at hk540 b541 b542
                  have hk540 : (y537).toInt = (bh8).toInt - (bh9).toInt + k539 * 4294967296 := hk540
                  obtain rfl : k539 = 0 := by omega
                  refine lv_bipush (v := 12) hx hb dX13_scan_140 (by decide) ?_
                  refine lv_icmp_le (tgt := 149) hx hb dX13_scan_142 (by decide) (fun c543 => ?_) (fun c543 => ?_)
                  · have c543 : (y537).toInt ≤ (12 : Int) := hq_lei.mp c543
                    refine lv_iconst (v := 1) hx hb dX13_scan_149 (by decide) ?_
                    refine hp_put hx hb hts hown hZ fx536 fp_X13_83 rfl rfl (Nat.le_of_ble_eq_true rfl) dX13_scan_150 (fun V544 _ _ e545 o546 hZ => ?_)
                    have e545 : V544 (mo) = some (.inr (13, hm_o q (m_tp) (m_sz) (bh9) (bh8) (1) (m_ft) (m_fa) (m_le) (m_fo) (m_as) (m_fd) (m_bc) (m_bg) (m_bs) (m_be) (m_b0) (m_b1) (m_cm) (m_hc))) := e545
                    have hP := hP.put h_mo e545 o546 (trivial) rfl
                    refine lv_goto (tgt := 320) hx hb dX13_scan_153 (by decide) ?_
                    have hl547 : (1 : Int32).toInt = 1 := by decide
                    exact hp_vret hx hb hr hlocks hZ ⟨rfl, hP, ⟨bh9, bh8, 1, e545, ⟨by omega, by omega, by omega, by omega, by omega, by omega⟩⟩⟩ dX13_scan_320
                  · have c543 : ¬ (y537).toInt ≤ (12 : Int) := fun h9 => c543 (hq_lei.mpr h9)
                    refine lv_iconst (v := 5) hx hb dX13_scan_145 (by decide) ?_
                    refine lv_goto (tgt := 150) hx hb dX13_scan_146 (by decide) ?_
                    refine hp_put hx hb hts hown hZ fx536 fp_X13_83 rfl rfl (Nat.le_of_ble_eq_true rfl) dX13_scan_150 (fun V548 _ _ e549 o550 hZ => ?_)
                    have e549 : V548 (mo) = some (.inr (13, hm_o q (m_tp) (m_sz) (bh9) (bh8) (5) (m_ft) (m_fa) (m_le) (m_fo) (m_as) (m_fd) (m_bc) (m_bg) (m_bs) (m_be) (m_b0) (m_b1) (m_cm) (m_hc))) := e549
                    have hP := hP.put h_mo e549 o550 (trivial) rfl
                    refine lv_goto (tgt := 320) hx hb dX13_scan_153 (by decide) ?_
                    have hl551 : (5 : Int32).toInt = 5 := by decide
                    exact hp_vret hx hb hr hlocks hZ ⟨rfl, hP, ⟨bh9, bh8, 5, e549, ⟨by omega, by omega, by omega, by omega, by omega, by omega⟩⟩⟩ dX13_scan_320
                · have c535 : ¬ (r531).toInt = (0 : Int) := fun h9 => c535 (hq_eqi.mpr h9)
                  refine lv_aload_n hx hb dX13_scan_117 rfl (lv_at hl 1 rfl) ?_
                  refine lv_dup hx hb dX13_scan_118 rfl ?_
                  have fx552 : V528 (mo) = some (.inr (13, hm_o q (m_tp) (m_sz) (bh9) (bh8) (m_hd) (m_ft) (m_fa) (m_le) (m_fo) (m_as) (m_fd) (m_bc) (m_bg) (m_bs) (m_be) (m_b0) (m_b1) (m_cm) (m_hc))) := (hq532.2 (mo) _ h_mo rfl).trans (ho526)
                  refine hp_get (v := .int (bh8)) hx hb hts hown hZ fx552 fl_X13_76 rfl dX13_scan_119 ?_
                  refine lv_iconst (v := 1) hx hb dX13_scan_122 (by decide) ?_
                  refine lv_iadd hx hb dX13_scan_123 ?_
                  refine lv_topi (fun y553 ey554 => ?_)
                  obtain ⟨k555, hk556, b557, b558⟩ := hq_add (bh8) (1)
                  rw [← ey554] at hk556 b557 b558
                  have hk556 : (y553).toInt = (bh8).toInt + (1 : Int) + k555 * 4294967296 := hk556
                  obtain rfl : k555 = 0 := by omega
                  refine hp_put hx hb hts hown hZ fx552 fp_X13_76 rfl rfl (Nat.le_of_ble_eq_true rfl) dX13_scan_124 (fun V559 _ _ e560 o561 hZ => ?_)
                  have e560 : V559 (mo) = some (.inr (13, hm_o q (m_tp) (m_sz) (bh9) (y553) (m_hd) (m_ft) (m_fa) (m_le) (m_fo) (m_as) (m_fd) (m_bc) (m_bg) (m_bs) (m_be) (m_b0) (m_b1) (m_cm) (m_hc))) := e560
                  have hP := hP.put h_mo e560 o561 (trivial) rfl
                  refine lv_goto (tgt := 103) hx hb dX13_scan_127 (by decide) ?_
                  exact ih103 _ (by omega) _ _ _ ls  (y553) rfl hZ hP e560 (by omega) (by omega) (lv_sub hl [0, 1] rfl)
          · have c307 : (bh9).toInt = (m_sz).toInt := hq_eqi.mp c307
            refine lv_aload_n hx hb dX13_scan_80 rfl (lv_at hl 1 rfl) ?_
            refine lv_iconst (v := 0) hx hb dX13_scan_81 (by decide) ?_
            refine hp_put hx hb hts hown hZ ho305 fp_X13_83 rfl rfl (Nat.le_of_ble_eq_true rfl) dX13_scan_82 (fun V562 _ _ e563 o564 hZ => ?_)
            have e563 : V562 (mo) = some (.inr (13, hm_o q (m_tp) (m_sz) (bh9) (bh9) (0) (m_ft) (m_fa) (m_le) (m_fo) (m_as) (m_fd) (m_bc) (m_bg) (m_bs) (m_be) (m_b0) (m_b1) (m_cm) (m_hc))) := e563
            have hP := hP.put h_mo e563 o564 (trivial) rfl
            have hl565 : (0 : Int32).toInt = 0 := by decide
            exact hp_vret hx hb hr hlocks hZ ⟨rfl, hP, ⟨bh9, bh9, 0, e563, ⟨by omega, by omega, by omega, by omega, by omega, by omega⟩⟩⟩ dX13_scan_85
        · have c295 : (y292).toInt = (10 : Int) := hq_eqi.mp c295
          refine lv_aload_n hx hb dX13_scan_39 rfl (lv_at hl 0 rfl) ?_
          refine lv_dup hx hb dX13_scan_40 rfl ?_
          refine hp_get (v := .int (bh9)) hx hb hts hown hZ ho1 fl_X13_76 rfl dX13_scan_41 ?_
          refine lv_iconst (v := 1) hx hb dX13_scan_44 (by decide) ?_
          refine lv_iadd hx hb dX13_scan_45 ?_
          refine lv_topi (fun y566 ey567 => ?_)
          obtain ⟨k568, hk569, b570, b571⟩ := hq_add (bh9) (1)
          rw [← ey567] at hk569 b570 b571
          have hk569 : (y566).toInt = (bh9).toInt + (1 : Int) + k568 * 4294967296 := hk569
          obtain rfl : k568 = 0 := by omega
          refine hp_put hx hb hts hown hZ ho1 fp_X13_76 rfl rfl (Nat.le_of_ble_eq_true rfl) dX13_scan_46 (fun V572 _ _ e573 o574 hZ => ?_)
          have e573 : V572 (mo) = some (.inr (13, hm_o q (m_tp) (m_sz) (m_fr) (y566) (m_hd) (m_ft) (m_fa) (m_le) (m_fo) (m_as) (m_fd) (m_bc) (m_bg) (m_bs) (m_be) (m_b0) (m_b1) (m_cm) (m_hc))) := e573
          have hP := hP.put h_mo e573 o574 (trivial) rfl
          refine lv_goto (tgt := 0) hx hb dX13_scan_49 (by decide) ?_
          exact ih0 _ (by omega) _ _ _ ls  (y566) rfl hZ hP e573 (by omega) (by omega) (lv_sub hl [0] rfl)

set_option maxHeartbeats 4000000 in
set_option maxRecDepth 100000 in
theorem t_X13_is (l : Launch) (D : va_G) (cs : Nat → ClassId) (B : Nat) (G : hq_G) (V : hp_V) (n : Nat) (hI : hq_I cs G V) (q : Nat) (hR : hq_RT G q) (mo : Nat) (h_mo : G mo = some (24, 0, 0, 0)) (i : Nat) (h_i : i < 18) {m_tp m_sz m_fr m_bh m_hd m_ft m_fa m_le m_fo m_as m_fd m_bc m_bg m_bs m_be m_b0 m_b1 m_cm m_hc : Int32} (ho_mo : V mo = some (.inr (13, hm_o q (m_tp) (m_sz) (m_fr) (m_bh) (m_hd) (m_ft) (m_fa) (m_le) (m_fo) (m_as) (m_fd) (m_bc) (m_bg) (m_bs) (m_be) (m_b0) (m_b1) (m_cm) (m_hc)))) (hi_mo0 : 0 ≤ m_tp.toInt ∧ m_tp.toInt ≤ 4000) (hi_mo1 : 0 ≤ m_sz.toInt ∧ m_sz.toInt ≤ 4000) (hi_mo2 : 0 ≤ m_le.toInt ∧ m_le.toInt ≤ 276) (hi_mo3 : 0 ≤ m_fo.toInt ∧ m_fo.toInt ≤ 4) (hi_mo4 : 0 ≤ m_as.toInt ∧ m_as.toInt ≤ 4000) (hi_mo5 : 0 ≤ m_fd.toInt ∧ m_fd.toInt ≤ 900) (hi_mo6 : 0 ≤ m_cm.toInt ∧ m_cm.toInt ≤ 2) (hi_mo7 : 0 ≤ m_hc.toInt ∧ m_hc.toInt ≤ 1) (hi_mo8 : hm_SC m_sz m_fr m_bh m_hd) : hp_M l yX13_is cX13_is 4 (some .boolean) ({ frames := 5, cells := 0, slots := 0, locals := 106 }) D cs B V n [.ref (mo), .ref (cs (100 + i))] (hp_QI D cs B (fun r V' n' => n = n' ∧ hq_P cs G (fun _ => false) V V' ∧ (V' mo = some (.inr (13, hm_o q (m_tp) (m_sz) (m_fr) (m_bh) (m_hd) (m_ft) (m_fa) (m_le) (m_fo) (m_as) (m_fd) (m_bc) (m_bg) (m_bs) (m_be) (m_b0) (m_b1) (m_cm) (m_hc)))) ∧ (hm_Is r m_hd))) 0 0 := by
  refine hp_walk (R0 := RX13) (by decide) rfl ?_ (Nat.le_of_ble_eq_true rfl)
  intro p e s m below meth c ls hx hb hr hts hown hlocks hin hml hZ hl
  have hP : hq_P cs G (fun _ => false) V V := hq_P.rf hI
  have hl : lv_has ls 4 [(0, .ref (mo)), (1, .ref (cs (100 + i)))] := hl
  have hb_m_tp := hq_rng m_tp
  have hb_m_sz := hq_rng m_sz
  have hb_m_fr := hq_rng m_fr
  have hb_m_bh := hq_rng m_bh
  have hb_m_hd := hq_rng m_hd
  have hb_m_ft := hq_rng m_ft
  have hb_m_fa := hq_rng m_fa
  have hb_m_le := hq_rng m_le
  have hb_m_fo := hq_rng m_fo
  have hb_m_as := hq_rng m_as
  have hb_m_fd := hq_rng m_fd
  have hb_m_bc := hq_rng m_bc
  have hb_m_bg := hq_rng m_bg
  have hb_m_bs := hq_rng m_bs
  have hb_m_be := hq_rng m_be
  have hb_m_b0 := hq_rng m_b0
  have hb_m_b1 := hq_rng m_b1
  have hb_m_cm := hq_rng m_cm
  have hb_m_hc := hq_rng m_hc
  have hscu := hm_SC.out (by assumption)
  have hsl := (hs_all i h_i).1
  have jn29 : ∀ (V9 : hp_V) (H9 : Heap) (locs9 : List Loc) (ls : Array Slot)  (y29 : Int32), hp_Z D cs B s V9 H9 n locs9 → hq_P cs G (fun _ => false) V V9 → V9 (mo) = some (.inr (13, hm_o q (m_tp) (m_sz) (m_fr) (m_bh) (m_hd) (m_ft) (m_fa) (m_le) (m_fo) (m_as) (m_fd) (m_bc) (m_bg) (m_bs) (m_be) (m_b0) (m_b1) (m_cm) (m_hc))) → (y29.toInt = 0 ∨ (y29.toInt = 1 ∧ m_hd.toInt = 1 ∧ m_bh.toInt - m_fr.toInt = (hp_sl.getD i 0 : Nat))) → lv_has ls 4 [(0, .ref (mo)), (1, .ref (cs (100 + i)))] → W p l e ({ frames := 5, cells := 0, slots := 0, locals := 106 }) s m ([.ref (mo), .ref (cs (100 + i))] : List Value).toArray below meth c H9 locs9 0 0 (MQ below (hp_QI D cs B (fun r V' n' => n = n' ∧ hq_P cs G (fun _ => false) V V' ∧ (V' mo = some (.inr (13, hm_o q (m_tp) (m_sz) (m_fr) (m_bh) (m_hd) (m_ft) (m_fa) (m_le) (m_fo) (m_as) (m_fd) (m_bc) (m_bg) (m_bs) (m_be) (m_b0) (m_b1) (m_cm) (m_hc)))) ∧ (hm_Is r m_hd))) ([.ref (mo), .ref (cs (100 + i))] : List Value).toArray s 0 0 (hp_F B)) (F0 m 29 ls [.int (y29)]) := by
    intro V9 H9 locs9 ls  y29  hZ hP  ho1 hv2 hl
    have hb_y29 := hq_rng y29
    have hPj29 := hP
    refine lv_istore_n (lv' := [(2, .int (y29)), (0, .ref (mo)), (1, .ref (cs (100 + i)))]) hx hb dX13_is_29 rfl hl (by decide) rfl (fun ls hl => ?_)
    refine lv_iconst (v := 0) hx hb dX13_is_30 (by decide) ?_
    refine lv_istore_n (lv' := [(3, .int (0)), (2, .int (y29)), (0, .ref (mo)), (1, .ref (cs (100 + i)))]) hx hb dX13_is_31 rfl hl (by decide) rfl (fun ls hl => ?_)
    have hl3 : (0 : Int32).toInt = 0 := by decide
    suffices lp32 : ∀ (k9 : Nat) (V9 : hp_V) (H9 : Heap) (locs9 : List Loc) (ls : Array Slot) (iz : Int32) (k : Int32), (1000 - k.toInt).toNat = k9 → hp_Z D cs B s V9 H9 n locs9 → hq_P cs G (fun _ => false) V V9 → 0 ≤ k.toInt → k.toInt ≤ 100 → (iz.toInt = 0 ∨ (iz.toInt = 1 ∧ m_hd.toInt = 1 ∧ m_bh.toInt - m_fr.toInt = (hp_sl.getD i 0 : Nat))) → lv_has ls 4 [(3, .int (k)), (2, .int (iz)), (0, .ref (mo)), (1, .ref (cs (100 + i)))] → W p l e ({ frames := 5, cells := 0, slots := 0, locals := 106 }) s m ([.ref (mo), .ref (cs (100 + i))] : List Value).toArray below meth c H9 locs9 0 0 (MQ below (hp_QI D cs B (fun r V' n' => n = n' ∧ hq_P cs G (fun _ => false) V V' ∧ (V' mo = some (.inr (13, hm_o q (m_tp) (m_sz) (m_fr) (m_bh) (m_hd) (m_ft) (m_fa) (m_le) (m_fo) (m_as) (m_fd) (m_bc) (m_bg) (m_bs) (m_be) (m_b0) (m_b1) (m_cm) (m_hc)))) ∧ (hm_Is r m_hd))) ([.ref (mo), .ref (cs (100 + i))] : List Value).toArray s 0 0 (hp_F B)) (F0 m 32 ls []) from lp32 _ _ _ _ ls (y29) (0) rfl hZ hP (by omega) (by omega) (by omega) (lv_sub hl [0, 1, 2, 3] rfl)
    intro k9
    induction k9 using Nat.strongRecOn with
    | _ k9 ih32 =>
      intro V9 H9 locs9 ls iz k  hk32 hZ hP  hv4 hv5 hv6 hl
      have hb_iz := hq_rng iz
      have hb_k := hq_rng k
      have hP_32 := hP
      refine lv_iload_n hx hb dX13_is_32 rfl (lv_at hl 0 rfl) ?_
      refine lv_aload_n hx hb dX13_is_33 rfl (lv_at hl 3 rfl) ?_
      refine hp_calli (hp_runVS (As := []) (rest := [.int (k)]) hx hb hml hown hts (s_length l D cs B V9 n i h_i) hZ h_i rfl cv_X13_93 rfl rfl ⟨Nat.le_of_ble_eq_true rfl, Nat.le_of_ble_eq_true rfl⟩ rfl hl.1 rfl (Nat.le_of_ble_eq_true rfl) dX13_is_34 ⟨Nat.le_of_ble_eq_true rfl, Nat.le_of_ble_eq_true rfl⟩) hZ (fun r10 V7 n8 _ _ hw9 hZ => ?_)
      obtain ⟨rfl, rfl, hr11⟩ := hw9
      have b12 := hq_rng r10
      have b13 : r10.toInt = (hp_sl.getD i 0 : Nat) := by rw [hr11]; exact hs_ofn (by have h9 := (hs_all i h_i).1; omega)
      refine lv_icmp_ge (tgt := 75) hx hb dX13_is_37 (by decide) (fun c14 => ?_) (fun c14 => ?_)
      · have c14 : (r10).toInt ≤ (k).toInt := hq_lei.mp c14
        refine lv_iload_n hx hb dX13_is_75 rfl (lv_at hl 1 rfl) ?_
        have fx15 : V9 (mo) = some (.inr (13, hm_o q (m_tp) (m_sz) (m_fr) (m_bh) (m_hd) (m_ft) (m_fa) (m_le) (m_fo) (m_as) (m_fd) (m_bc) (m_bg) (m_bs) (m_be) (m_b0) (m_b1) (m_cm) (m_hc))) := (hP_32.2 (mo) _ h_mo rfl).trans (ho_mo)
        exact hp_zret hx hb hr (hq_nzi (by omega) (by omega)) hlocks hZ ⟨rfl, hP, fx15, (show _ ∨ _ by omega)⟩ dX13_is_76
      · have c14 : ¬ (r10).toInt ≤ (k).toInt := fun h9 => c14 (hq_lei.mpr h9)
        refine lv_iload_n hx hb dX13_is_40 rfl (lv_at hl 1 rfl) ?_
        refine lv_if_eq (tgt := 75) hx hb dX13_is_41 (by decide) (fun c16 => ?_) (fun c16 => ?_)
        · have c16 : (iz).toInt = (0 : Int) := hq_eqi.mp c16
          refine lv_iload_n hx hb dX13_is_75 rfl (lv_at hl 1 rfl) ?_
          have fx17 : V9 (mo) = some (.inr (13, hm_o q (m_tp) (m_sz) (m_fr) (m_bh) (m_hd) (m_ft) (m_fa) (m_le) (m_fo) (m_as) (m_fd) (m_bc) (m_bg) (m_bs) (m_be) (m_b0) (m_b1) (m_cm) (m_hc))) := (hP_32.2 (mo) _ h_mo rfl).trans (ho_mo)
          exact hp_zret hx hb hr (hq_nzi (by omega) (by omega)) hlocks hZ ⟨rfl, hP, fx17, (show _ ∨ _ by omega)⟩ dX13_is_76
        · have c16 : ¬ (iz).toInt = (0 : Int) := fun h9 => c16 (hq_eqi.mpr h9)
          refine lv_aload_n hx hb dX13_is_44 rfl (lv_at hl 2 rfl) ?_
          have fx18 : V9 (mo) = some (.inr (13, hm_o q (m_tp) (m_sz) (m_fr) (m_bh) (m_hd) (m_ft) (m_fa) (m_le) (m_fo) (m_as) (m_fd) (m_bc) (m_bg) (m_bs) (m_be) (m_b0) (m_b1) (m_cm) (m_hc))) := (hP_32.2 (mo) _ h_mo rfl).trans (ho_mo)
          refine hp_get (v := .ref (q + 20)) hx hb hts hown hZ fx18 fl_X13_73 rfl dX13_is_45 ?_
          refine lv_aload_n hx hb dX13_is_48 rfl (lv_at hl 2 rfl) ?_
          refine hp_get (v := .int (m_fr)) hx hb hts hown hZ fx18 fl_X13_60 rfl dX13_is_49 ?_
          refine lv_iload_n hx hb dX13_is_52 rfl (lv_at hl 0 rfl) ?_
          refine lv_iadd hx hb dX13_is_53 ?_
          refine lv_topi (fun y19 ey20 => ?_)
          obtain ⟨k21, hk22, b23, b24⟩ := hq_add (m_fr) (k)
          rw [← ey20] at hk22 b23 b24
          have hk22 : (y19).toInt = (m_fr).toInt + (k).toInt + k21 * 4294967296 := hk22
          obtain rfl : k21 = 0 := by omega
          obtain ⟨hN27, g26, eV25⟩ := hq_o20 hP.1 (hr_20 hR)
          refine hp_bald hx hb hZ eV25 (hq_in (by omega) (by omega)) dX13_is_54 ?_
          refine lv_topi (fun y29 ey30 => ?_)
          have b31 := hq_rng y29
          refine lv_aload_n hx hb dX13_is_55 rfl (lv_at hl 3 rfl) ?_
          refine lv_iload_n hx hb dX13_is_56 rfl (lv_at hl 0 rfl) ?_
          refine hp_calli (hp_runVS (As := [.int (k)]) (rest := [.int (y29)]) hx hb hml hown hts (s_charAt l D cs B V9 n i h_i (k) (by omega) (by omega)) hZ h_i rfl cv_X13_99 rfl rfl ⟨Nat.le_of_ble_eq_true rfl, Nat.le_of_ble_eq_true rfl⟩ rfl hl.1 rfl (Nat.le_of_ble_eq_true rfl) dX13_is_57 ⟨Nat.le_of_ble_eq_true rfl, Nat.le_of_ble_eq_true rfl⟩) hZ (fun r35 V32 n33 _ _ hw34 hZ => ?_)
          obtain ⟨rfl, rfl, hr36⟩ := hw34
          have b37 := hq_rng r35
          refine lv_icmp_ne (tgt := 67) hx hb dX13_is_60 (by decide) (fun c38 => ?_) (fun c38 => ?_)
          · have c38 : ¬ (y29).toInt = (r35).toInt := fun h9 => c38 (hq_eqi.mpr h9)
            refine lv_iconst (v := 0) hx hb dX13_is_67 (by decide) ?_
            refine lv_istore_n (lv' := [(2, .int (0)), (3, .int (k)), (0, .ref (mo)), (1, .ref (cs (100 + i)))]) hx hb dX13_is_68 rfl hl (by decide) rfl (fun ls hl => ?_)
            obtain ⟨y39, ey40⟩ : ∃ y : Int32, y = k + (1) := ⟨_, rfl⟩
            obtain ⟨k41, hk42, b43, b44⟩ := hq_add (k) (1)
            rw [← ey40] at hk42 b43 b44
            have hk42 : (y39).toInt = (k).toInt + (1) + k41 * 4294967296 := hk42
            refine lv_iinc (v := y39) (lv' := [(3, .int (y39)), (2, .int (0)), (0, .ref (mo)), (1, .ref (cs (100 + i)))]) hx hb dX13_is_69 hl (k := 1) rfl (by rw [ey40]; rfl) (by decide) rfl (fun ls hl => ?_)
            refine lv_goto (tgt := 32) hx hb dX13_is_72 (by decide) ?_
            exact ih32 _ (by omega) _ _ _ ls (0) (y39) rfl hZ hP (by omega) (by omega) (by omega) (lv_sub hl [0, 1, 2, 3] rfl)
          · have c38 : (y29).toInt = (r35).toInt := hq_eqi.mp c38
            refine lv_iconst (v := 1) hx hb dX13_is_63 (by decide) ?_
            refine lv_goto (tgt := 68) hx hb dX13_is_64 (by decide) ?_
            refine lv_istore_n (lv' := [(2, .int (1)), (3, .int (k)), (0, .ref (mo)), (1, .ref (cs (100 + i)))]) hx hb dX13_is_68 rfl hl (by decide) rfl (fun ls hl => ?_)
            obtain ⟨y45, ey46⟩ : ∃ y : Int32, y = k + (1) := ⟨_, rfl⟩
            obtain ⟨k47, hk48, b49, b50⟩ := hq_add (k) (1)
            rw [← ey46] at hk48 b49 b50
            have hk48 : (y45).toInt = (k).toInt + (1) + k47 * 4294967296 := hk48
            refine lv_iinc (v := y45) (lv' := [(3, .int (y45)), (2, .int (1)), (0, .ref (mo)), (1, .ref (cs (100 + i)))]) hx hb dX13_is_69 hl (k := 1) rfl (by rw [ey46]; rfl) (by decide) rfl (fun ls hl => ?_)
            refine lv_goto (tgt := 32) hx hb dX13_is_72 (by decide) ?_
            exact ih32 _ (by omega) _ _ _ ls (1) (y45) rfl hZ hP (by omega) (by omega) (by omega) (lv_sub hl [0, 1, 2, 3] rfl)
  refine lv_aload_n hx hb dX13_is_0 rfl (lv_at hl 0 rfl) ?_
  refine hp_get (v := .int (m_hd)) hx hb hts hown hZ ho_mo fl_X13_83 rfl dX13_is_1 ?_
  refine lv_iconst (v := 1) hx hb dX13_is_4 (by decide) ?_
  refine lv_icmp_ne (tgt := 28) hx hb dX13_is_5 (by decide) (fun c51 => ?_) (fun c51 => ?_)
  · have c51 : ¬ (m_hd).toInt = (1 : Int) := fun h9 => c51 (hq_eqi.mpr h9)
    refine lv_iconst (v := 0) hx hb dX13_is_28 (by decide) ?_
    have hl52 : (0 : Int32).toInt = 0 := by decide
    exact jn29 _ _ _ ls (0) hZ hP ho_mo (by omega) (lv_sub hl [0, 1] rfl)
  · have c51 : (m_hd).toInt = (1 : Int) := hq_eqi.mp c51
    refine lv_aload_n hx hb dX13_is_8 rfl (lv_at hl 0 rfl) ?_
    refine hp_get (v := .int (m_bh)) hx hb hts hown hZ ho_mo fl_X13_76 rfl dX13_is_9 ?_
    refine lv_aload_n hx hb dX13_is_12 rfl (lv_at hl 0 rfl) ?_
    refine hp_get (v := .int (m_fr)) hx hb hts hown hZ ho_mo fl_X13_60 rfl dX13_is_13 ?_
    refine lv_isub hx hb dX13_is_16 ?_
    refine lv_topi (fun y53 ey54 => ?_)
    obtain ⟨k55, hk56, b57, b58⟩ := hq_sub (m_bh) (m_fr)
    rw [← ey54] at hk56 b57 b58
    have hk56 : (y53).toInt = (m_bh).toInt - (m_fr).toInt + k55 * 4294967296 := hk56
    obtain rfl : k55 = 0 := by omega
    refine lv_aload_n hx hb dX13_is_17 rfl (lv_at hl 1 rfl) ?_
    refine hp_calli (hp_runVS (As := []) (rest := [.int (y53)]) hx hb hml hown hts (s_length l D cs B V n i h_i) hZ h_i rfl cv_X13_93 rfl rfl ⟨Nat.le_of_ble_eq_true rfl, Nat.le_of_ble_eq_true rfl⟩ rfl hl.1 rfl (Nat.le_of_ble_eq_true rfl) dX13_is_18 ⟨Nat.le_of_ble_eq_true rfl, Nat.le_of_ble_eq_true rfl⟩) hZ (fun r62 V59 n60 _ _ hw61 hZ => ?_)
    obtain ⟨rfl, rfl, hr63⟩ := hw61
    have b64 := hq_rng r62
    have b65 : r62.toInt = (hp_sl.getD i 0 : Nat) := by rw [hr63]; exact hs_ofn (by have h9 := (hs_all i h_i).1; omega)
    refine lv_icmp_ne (tgt := 28) hx hb dX13_is_21 (by decide) (fun c66 => ?_) (fun c66 => ?_)
    · have c66 : ¬ (y53).toInt = (r62).toInt := fun h9 => c66 (hq_eqi.mpr h9)
      refine lv_iconst (v := 0) hx hb dX13_is_28 (by decide) ?_
      have hl67 : (0 : Int32).toInt = 0 := by decide
      exact jn29 _ _ _ ls (0) hZ hP ho_mo (by omega) (lv_sub hl [0, 1] rfl)
    · have c66 : (y53).toInt = (r62).toInt := hq_eqi.mp c66
      refine lv_iconst (v := 1) hx hb dX13_is_24 (by decide) ?_
      refine lv_goto (tgt := 29) hx hb dX13_is_25 (by decide) ?_
      have hl68 : (1 : Int32).toInt = 1 := by decide
      exact jn29 _ _ _ ls (1) hZ hP ho_mo (by omega) (lv_sub hl [0, 1] rfl)

set_option maxHeartbeats 4000000 in
set_option maxRecDepth 100000 in
theorem t_X13_isKeyword (l : Launch) (D : va_G) (cs : Nat → ClassId) (B : Nat) (G : hq_G) (V : hp_V) (n : Nat) (hI : hq_I cs G V) (q : Nat) (hR : hq_RT G q) (mo : Nat) (h_mo : G mo = some (24, 0, 0, 0)) {m_tp m_sz m_fr m_bh m_hd m_ft m_fa m_le m_fo m_as m_fd m_bc m_bg m_bs m_be m_b0 m_b1 m_cm m_hc : Int32} (ho_mo : V mo = some (.inr (13, hm_o q (m_tp) (m_sz) (m_fr) (m_bh) (m_hd) (m_ft) (m_fa) (m_le) (m_fo) (m_as) (m_fd) (m_bc) (m_bg) (m_bs) (m_be) (m_b0) (m_b1) (m_cm) (m_hc)))) (hi_mo0 : 0 ≤ m_tp.toInt ∧ m_tp.toInt ≤ 4000) (hi_mo1 : 0 ≤ m_sz.toInt ∧ m_sz.toInt ≤ 4000) (hi_mo2 : 0 ≤ m_le.toInt ∧ m_le.toInt ≤ 276) (hi_mo3 : 0 ≤ m_fo.toInt ∧ m_fo.toInt ≤ 4) (hi_mo4 : 0 ≤ m_as.toInt ∧ m_as.toInt ≤ 4000) (hi_mo5 : 0 ≤ m_fd.toInt ∧ m_fd.toInt ≤ 900) (hi_mo6 : 0 ≤ m_cm.toInt ∧ m_cm.toInt ≤ 2) (hi_mo7 : 0 ≤ m_hc.toInt ∧ m_hc.toInt ≤ 1) (hi_mo8 : hm_SC m_sz m_fr m_bh m_hd) : hp_M l yX13_isKeyword cX13_isKeyword 2 (some .boolean) ({ frames := 6, cells := 0, slots := 0, locals := 129 }) D cs B V n [.ref (mo)] (hp_QI D cs B (fun r V' n' => n = n' ∧ hq_P cs G (fun _ => false) V V' ∧ (V' mo = some (.inr (13, hm_o q (m_tp) (m_sz) (m_fr) (m_bh) (m_hd) (m_ft) (m_fa) (m_le) (m_fo) (m_as) (m_fd) (m_bc) (m_bg) (m_bs) (m_be) (m_b0) (m_b1) (m_cm) (m_hc)))) ∧ (0 ≤ r.toInt ∧ r.toInt ≤ 1))) 0 0 := by
  refine hp_walk (R0 := RX13) (by decide) rfl ?_ (Nat.le_of_ble_eq_true rfl)
  intro p e s m below meth c ls hx hb hr hts hown hlocks hin hml hZ hl
  have hP : hq_P cs G (fun _ => false) V V := hq_P.rf hI
  have hl : lv_has ls 2 [(0, .ref (mo))] := hl
  have hb_m_tp := hq_rng m_tp
  have hb_m_sz := hq_rng m_sz
  have hb_m_fr := hq_rng m_fr
  have hb_m_bh := hq_rng m_bh
  have hb_m_hd := hq_rng m_hd
  have hb_m_ft := hq_rng m_ft
  have hb_m_fa := hq_rng m_fa
  have hb_m_le := hq_rng m_le
  have hb_m_fo := hq_rng m_fo
  have hb_m_as := hq_rng m_as
  have hb_m_fd := hq_rng m_fd
  have hb_m_bc := hq_rng m_bc
  have hb_m_bg := hq_rng m_bg
  have hb_m_bs := hq_rng m_bs
  have hb_m_be := hq_rng m_be
  have hb_m_b0 := hq_rng m_b0
  have hb_m_b1 := hq_rng m_b1
  have hb_m_cm := hq_rng m_cm
  have hb_m_hc := hq_rng m_hc
  refine lv_aload_n hx hb dX13_isKeyword_0 rfl (lv_at hl 0 rfl) ?_
  refine va_ldcS (tx := (hp_so.getD 1 ("", 0, "")).2.2) (q := cs (100 + 1)) hx hb hown (hZ.2.2.2.2.2.2.2.2.2.2 1 (by decide)) dX13_isKeyword_1 ?_
  refine hp_calli (hp_runV (As := [.ref (cs (100 + 1))]) (rest := []) hx hb hml hown hts (t_X13_is l D cs B G  V n hP.1 q hR (mo) h_mo 1 (by decide) ho_mo  (by omega) (by omega) (by omega) (by omega) (by omega) (by omega) (by omega) (by omega) (by assumption) ) hZ ho_mo cv_X13_103 rfl rfl ⟨Nat.le_of_ble_eq_true rfl, Nat.le_of_ble_eq_true rfl⟩ rfl hl.1 rfl (Nat.le_of_ble_eq_true rfl) dX13_isKeyword_3 ⟨(Nat.le_of_ble_eq_true rfl), (Nat.le_of_ble_eq_true rfl)⟩) hZ (fun r4 V1 n2 _ _ hw3 hZ => ?_)
  obtain ⟨rfl, hq5, ho7, hr6⟩ := hw3
  have hP := hP.trans hq5 (fun _ _ => rfl)
  have b8 := hq_rng r4
  refine lv_if_ne (tgt := 81) hx hb dX13_isKeyword_6 (by decide) (fun c9 => ?_) (fun c9 => ?_)
  · have c9 : ¬ (r4).toInt = (0 : Int) := fun h9 => c9 (hq_eqi.mpr h9)
    refine lv_iconst (v := 1) hx hb dX13_isKeyword_81 (by decide) ?_
    refine lv_goto (tgt := 86) hx hb dX13_isKeyword_82 (by decide) ?_
    refine lv_istore_n (lv' := [(1, .int (1)), (0, .ref (mo))]) hx hb dX13_isKeyword_86 rfl hl (by decide) rfl (fun ls hl => ?_)
    refine lv_iload_n hx hb dX13_isKeyword_87 rfl (lv_at hl 0 rfl) ?_
    refine lv_if_ne (tgt := 163) hx hb dX13_isKeyword_88 (by decide) (fun c10 => ?_) (fun c10 => absurd c10 (by decide))
    refine lv_iconst (v := 1) hx hb dX13_isKeyword_163 (by decide) ?_
    refine lv_goto (tgt := 168) hx hb dX13_isKeyword_164 (by decide) ?_
    exact hp_zret hx hb hr rfl hlocks hZ ⟨rfl, hP, ho7, (by decide)⟩ dX13_isKeyword_168
  · have c9 : (r4).toInt = (0 : Int) := hq_eqi.mp c9
    refine lv_aload_n hx hb dX13_isKeyword_9 rfl (lv_at hl 0 rfl) ?_
    refine va_ldcS (tx := (hp_so.getD 2 ("", 0, "")).2.2) (q := cs (100 + 2)) hx hb hown (hZ.2.2.2.2.2.2.2.2.2.2 2 (by decide)) dX13_isKeyword_10 ?_
    refine hp_calli (hp_runV (As := [.ref (cs (100 + 2))]) (rest := []) hx hb hml hown hts (t_X13_is l D cs B G  V1 n hP.1 q hR (mo) h_mo 2 (by decide) ho7  (by omega) (by omega) (by omega) (by omega) (by omega) (by omega) (by omega) (by omega) (by assumption) ) hZ ho7 cv_X13_103 rfl rfl ⟨Nat.le_of_ble_eq_true rfl, Nat.le_of_ble_eq_true rfl⟩ rfl hl.1 rfl (Nat.le_of_ble_eq_true rfl) dX13_isKeyword_12 ⟨(Nat.le_of_ble_eq_true rfl), (Nat.le_of_ble_eq_true rfl)⟩) hZ (fun r14 V11 n12 _ _ hw13 hZ => ?_)
    obtain ⟨rfl, hq15, ho17, hr16⟩ := hw13
    have hP := hP.trans hq15 (fun _ _ => rfl)
    have b18 := hq_rng r14
    refine lv_if_ne (tgt := 81) hx hb dX13_isKeyword_15 (by decide) (fun c19 => ?_) (fun c19 => ?_)
    · have c19 : ¬ (r14).toInt = (0 : Int) := fun h9 => c19 (hq_eqi.mpr h9)
      refine lv_iconst (v := 1) hx hb dX13_isKeyword_81 (by decide) ?_
      refine lv_goto (tgt := 86) hx hb dX13_isKeyword_82 (by decide) ?_
      refine lv_istore_n (lv' := [(1, .int (1)), (0, .ref (mo))]) hx hb dX13_isKeyword_86 rfl hl (by decide) rfl (fun ls hl => ?_)
      refine lv_iload_n hx hb dX13_isKeyword_87 rfl (lv_at hl 0 rfl) ?_
      refine lv_if_ne (tgt := 163) hx hb dX13_isKeyword_88 (by decide) (fun c20 => ?_) (fun c20 => absurd c20 (by decide))
      refine lv_iconst (v := 1) hx hb dX13_isKeyword_163 (by decide) ?_
      refine lv_goto (tgt := 168) hx hb dX13_isKeyword_164 (by decide) ?_
      exact hp_zret hx hb hr rfl hlocks hZ ⟨rfl, hP, ho17, (by decide)⟩ dX13_isKeyword_168
    · have c19 : (r14).toInt = (0 : Int) := hq_eqi.mp c19
      refine lv_aload_n hx hb dX13_isKeyword_18 rfl (lv_at hl 0 rfl) ?_
      refine va_ldcS (tx := (hp_so.getD 3 ("", 0, "")).2.2) (q := cs (100 + 3)) hx hb hown (hZ.2.2.2.2.2.2.2.2.2.2 3 (by decide)) dX13_isKeyword_19 ?_
      refine hp_calli (hp_runV (As := [.ref (cs (100 + 3))]) (rest := []) hx hb hml hown hts (t_X13_is l D cs B G  V11 n hP.1 q hR (mo) h_mo 3 (by decide) ho17  (by omega) (by omega) (by omega) (by omega) (by omega) (by omega) (by omega) (by omega) (by assumption) ) hZ ho17 cv_X13_103 rfl rfl ⟨Nat.le_of_ble_eq_true rfl, Nat.le_of_ble_eq_true rfl⟩ rfl hl.1 rfl (Nat.le_of_ble_eq_true rfl) dX13_isKeyword_21 ⟨(Nat.le_of_ble_eq_true rfl), (Nat.le_of_ble_eq_true rfl)⟩) hZ (fun r24 V21 n22 _ _ hw23 hZ => ?_)
      obtain ⟨rfl, hq25, ho27, hr26⟩ := hw23
      have hP := hP.trans hq25 (fun _ _ => rfl)
      have b28 := hq_rng r24
      refine lv_if_ne (tgt := 81) hx hb dX13_isKeyword_24 (by decide) (fun c29 => ?_) (fun c29 => ?_)
      · have c29 : ¬ (r24).toInt = (0 : Int) := fun h9 => c29 (hq_eqi.mpr h9)
        refine lv_iconst (v := 1) hx hb dX13_isKeyword_81 (by decide) ?_
        refine lv_goto (tgt := 86) hx hb dX13_isKeyword_82 (by decide) ?_
        refine lv_istore_n (lv' := [(1, .int (1)), (0, .ref (mo))]) hx hb dX13_isKeyword_86 rfl hl (by decide) rfl (fun ls hl => ?_)
        refine lv_iload_n hx hb dX13_isKeyword_87 rfl (lv_at hl 0 rfl) ?_
        refine lv_if_ne (tgt := 163) hx hb dX13_isKeyword_88 (by decide) (fun c30 => ?_) (fun c30 => absurd c30 (by decide))
        refine lv_iconst (v := 1) hx hb dX13_isKeyword_163 (by decide) ?_
        refine lv_goto (tgt := 168) hx hb dX13_isKeyword_164 (by decide) ?_
        exact hp_zret hx hb hr rfl hlocks hZ ⟨rfl, hP, ho27, (by decide)⟩ dX13_isKeyword_168
      · have c29 : (r24).toInt = (0 : Int) := hq_eqi.mp c29
        refine lv_aload_n hx hb dX13_isKeyword_27 rfl (lv_at hl 0 rfl) ?_
        refine va_ldcS (tx := (hp_so.getD 4 ("", 0, "")).2.2) (q := cs (100 + 4)) hx hb hown (hZ.2.2.2.2.2.2.2.2.2.2 4 (by decide)) dX13_isKeyword_28 ?_
        refine hp_calli (hp_runV (As := [.ref (cs (100 + 4))]) (rest := []) hx hb hml hown hts (t_X13_is l D cs B G  V21 n hP.1 q hR (mo) h_mo 4 (by decide) ho27  (by omega) (by omega) (by omega) (by omega) (by omega) (by omega) (by omega) (by omega) (by assumption) ) hZ ho27 cv_X13_103 rfl rfl ⟨Nat.le_of_ble_eq_true rfl, Nat.le_of_ble_eq_true rfl⟩ rfl hl.1 rfl (Nat.le_of_ble_eq_true rfl) dX13_isKeyword_30 ⟨(Nat.le_of_ble_eq_true rfl), (Nat.le_of_ble_eq_true rfl)⟩) hZ (fun r34 V31 n32 _ _ hw33 hZ => ?_)
        obtain ⟨rfl, hq35, ho37, hr36⟩ := hw33
        have hP := hP.trans hq35 (fun _ _ => rfl)
        have b38 := hq_rng r34
        refine lv_if_ne (tgt := 81) hx hb dX13_isKeyword_33 (by decide) (fun c39 => ?_) (fun c39 => ?_)
        · have c39 : ¬ (r34).toInt = (0 : Int) := fun h9 => c39 (hq_eqi.mpr h9)
          refine lv_iconst (v := 1) hx hb dX13_isKeyword_81 (by decide) ?_
          refine lv_goto (tgt := 86) hx hb dX13_isKeyword_82 (by decide) ?_
          refine lv_istore_n (lv' := [(1, .int (1)), (0, .ref (mo))]) hx hb dX13_isKeyword_86 rfl hl (by decide) rfl (fun ls hl => ?_)
          refine lv_iload_n hx hb dX13_isKeyword_87 rfl (lv_at hl 0 rfl) ?_
          refine lv_if_ne (tgt := 163) hx hb dX13_isKeyword_88 (by decide) (fun c40 => ?_) (fun c40 => absurd c40 (by decide))
          refine lv_iconst (v := 1) hx hb dX13_isKeyword_163 (by decide) ?_
          refine lv_goto (tgt := 168) hx hb dX13_isKeyword_164 (by decide) ?_
          exact hp_zret hx hb hr rfl hlocks hZ ⟨rfl, hP, ho37, (by decide)⟩ dX13_isKeyword_168
        · have c39 : (r34).toInt = (0 : Int) := hq_eqi.mp c39
          refine lv_aload_n hx hb dX13_isKeyword_36 rfl (lv_at hl 0 rfl) ?_
          refine va_ldcS (tx := (hp_so.getD 5 ("", 0, "")).2.2) (q := cs (100 + 5)) hx hb hown (hZ.2.2.2.2.2.2.2.2.2.2 5 (by decide)) dX13_isKeyword_37 ?_
          refine hp_calli (hp_runV (As := [.ref (cs (100 + 5))]) (rest := []) hx hb hml hown hts (t_X13_is l D cs B G  V31 n hP.1 q hR (mo) h_mo 5 (by decide) ho37  (by omega) (by omega) (by omega) (by omega) (by omega) (by omega) (by omega) (by omega) (by assumption) ) hZ ho37 cv_X13_103 rfl rfl ⟨Nat.le_of_ble_eq_true rfl, Nat.le_of_ble_eq_true rfl⟩ rfl hl.1 rfl (Nat.le_of_ble_eq_true rfl) dX13_isKeyword_39 ⟨(Nat.le_of_ble_eq_true rfl), (Nat.le_of_ble_eq_true rfl)⟩) hZ (fun r44 V41 n42 _ _ hw43 hZ => ?_)
          obtain ⟨rfl, hq45, ho47, hr46⟩ := hw43
          have hP := hP.trans hq45 (fun _ _ => rfl)
          have b48 := hq_rng r44
          refine lv_if_ne (tgt := 81) hx hb dX13_isKeyword_42 (by decide) (fun c49 => ?_) (fun c49 => ?_)
          · have c49 : ¬ (r44).toInt = (0 : Int) := fun h9 => c49 (hq_eqi.mpr h9)
            refine lv_iconst (v := 1) hx hb dX13_isKeyword_81 (by decide) ?_
            refine lv_goto (tgt := 86) hx hb dX13_isKeyword_82 (by decide) ?_
            refine lv_istore_n (lv' := [(1, .int (1)), (0, .ref (mo))]) hx hb dX13_isKeyword_86 rfl hl (by decide) rfl (fun ls hl => ?_)
            refine lv_iload_n hx hb dX13_isKeyword_87 rfl (lv_at hl 0 rfl) ?_
            refine lv_if_ne (tgt := 163) hx hb dX13_isKeyword_88 (by decide) (fun c50 => ?_) (fun c50 => absurd c50 (by decide))
            refine lv_iconst (v := 1) hx hb dX13_isKeyword_163 (by decide) ?_
            refine lv_goto (tgt := 168) hx hb dX13_isKeyword_164 (by decide) ?_
            exact hp_zret hx hb hr rfl hlocks hZ ⟨rfl, hP, ho47, (by decide)⟩ dX13_isKeyword_168
          · have c49 : (r44).toInt = (0 : Int) := hq_eqi.mp c49
            refine lv_aload_n hx hb dX13_isKeyword_45 rfl (lv_at hl 0 rfl) ?_
            refine va_ldcS (tx := (hp_so.getD 6 ("", 0, "")).2.2) (q := cs (100 + 6)) hx hb hown (hZ.2.2.2.2.2.2.2.2.2.2 6 (by decide)) dX13_isKeyword_46 ?_
            refine hp_calli (hp_runV (As := [.ref (cs (100 + 6))]) (rest := []) hx hb hml hown hts (t_X13_is l D cs B G  V41 n hP.1 q hR (mo) h_mo 6 (by decide) ho47  (by omega) (by omega) (by omega) (by omega) (by omega) (by omega) (by omega) (by omega) (by assumption) ) hZ ho47 cv_X13_103 rfl rfl ⟨Nat.le_of_ble_eq_true rfl, Nat.le_of_ble_eq_true rfl⟩ rfl hl.1 rfl (Nat.le_of_ble_eq_true rfl) dX13_isKeyword_48 ⟨(Nat.le_of_ble_eq_true rfl), (Nat.le_of_ble_eq_true rfl)⟩) hZ (fun r54 V51 n52 _ _ hw53 hZ => ?_)
            obtain ⟨rfl, hq55, ho57, hr56⟩ := hw53
            have hP := hP.trans hq55 (fun _ _ => rfl)
            have b58 := hq_rng r54
            refine lv_if_ne (tgt := 81) hx hb dX13_isKeyword_51 (by decide) (fun c59 => ?_) (fun c59 => ?_)
            · have c59 : ¬ (r54).toInt = (0 : Int) := fun h9 => c59 (hq_eqi.mpr h9)
              refine lv_iconst (v := 1) hx hb dX13_isKeyword_81 (by decide) ?_
              refine lv_goto (tgt := 86) hx hb dX13_isKeyword_82 (by decide) ?_
              refine lv_istore_n (lv' := [(1, .int (1)), (0, .ref (mo))]) hx hb dX13_isKeyword_86 rfl hl (by decide) rfl (fun ls hl => ?_)
              refine lv_iload_n hx hb dX13_isKeyword_87 rfl (lv_at hl 0 rfl) ?_
              refine lv_if_ne (tgt := 163) hx hb dX13_isKeyword_88 (by decide) (fun c60 => ?_) (fun c60 => absurd c60 (by decide))
              refine lv_iconst (v := 1) hx hb dX13_isKeyword_163 (by decide) ?_
              refine lv_goto (tgt := 168) hx hb dX13_isKeyword_164 (by decide) ?_
              exact hp_zret hx hb hr rfl hlocks hZ ⟨rfl, hP, ho57, (by decide)⟩ dX13_isKeyword_168
            · have c59 : (r54).toInt = (0 : Int) := hq_eqi.mp c59
              refine lv_aload_n hx hb dX13_isKeyword_54 rfl (lv_at hl 0 rfl) ?_
              refine va_ldcS (tx := (hp_so.getD 7 ("", 0, "")).2.2) (q := cs (100 + 7)) hx hb hown (hZ.2.2.2.2.2.2.2.2.2.2 7 (by decide)) dX13_isKeyword_55 ?_
              refine hp_calli (hp_runV (As := [.ref (cs (100 + 7))]) (rest := []) hx hb hml hown hts (t_X13_is l D cs B G  V51 n hP.1 q hR (mo) h_mo 7 (by decide) ho57  (by omega) (by omega) (by omega) (by omega) (by omega) (by omega) (by omega) (by omega) (by assumption) ) hZ ho57 cv_X13_103 rfl rfl ⟨Nat.le_of_ble_eq_true rfl, Nat.le_of_ble_eq_true rfl⟩ rfl hl.1 rfl (Nat.le_of_ble_eq_true rfl) dX13_isKeyword_57 ⟨(Nat.le_of_ble_eq_true rfl), (Nat.le_of_ble_eq_true rfl)⟩) hZ (fun r64 V61 n62 _ _ hw63 hZ => ?_)
              obtain ⟨rfl, hq65, ho67, hr66⟩ := hw63
              have hP := hP.trans hq65 (fun _ _ => rfl)
              have b68 := hq_rng r64
              refine lv_if_ne (tgt := 81) hx hb dX13_isKeyword_60 (by decide) (fun c69 => ?_) (fun c69 => ?_)
              · have c69 : ¬ (r64).toInt = (0 : Int) := fun h9 => c69 (hq_eqi.mpr h9)
                refine lv_iconst (v := 1) hx hb dX13_isKeyword_81 (by decide) ?_
                refine lv_goto (tgt := 86) hx hb dX13_isKeyword_82 (by decide) ?_
                refine lv_istore_n (lv' := [(1, .int (1)), (0, .ref (mo))]) hx hb dX13_isKeyword_86 rfl hl (by decide) rfl (fun ls hl => ?_)
                refine lv_iload_n hx hb dX13_isKeyword_87 rfl (lv_at hl 0 rfl) ?_
                refine lv_if_ne (tgt := 163) hx hb dX13_isKeyword_88 (by decide) (fun c70 => ?_) (fun c70 => absurd c70 (by decide))
                refine lv_iconst (v := 1) hx hb dX13_isKeyword_163 (by decide) ?_
                refine lv_goto (tgt := 168) hx hb dX13_isKeyword_164 (by decide) ?_
                exact hp_zret hx hb hr rfl hlocks hZ ⟨rfl, hP, ho67, (by decide)⟩ dX13_isKeyword_168
              · have c69 : (r64).toInt = (0 : Int) := hq_eqi.mp c69
                refine lv_aload_n hx hb dX13_isKeyword_63 rfl (lv_at hl 0 rfl) ?_
                refine va_ldcS (tx := (hp_so.getD 8 ("", 0, "")).2.2) (q := cs (100 + 8)) hx hb hown (hZ.2.2.2.2.2.2.2.2.2.2 8 (by decide)) dX13_isKeyword_64 ?_
                refine hp_calli (hp_runV (As := [.ref (cs (100 + 8))]) (rest := []) hx hb hml hown hts (t_X13_is l D cs B G  V61 n hP.1 q hR (mo) h_mo 8 (by decide) ho67  (by omega) (by omega) (by omega) (by omega) (by omega) (by omega) (by omega) (by omega) (by assumption) ) hZ ho67 cv_X13_103 rfl rfl ⟨Nat.le_of_ble_eq_true rfl, Nat.le_of_ble_eq_true rfl⟩ rfl hl.1 rfl (Nat.le_of_ble_eq_true rfl) dX13_isKeyword_66 ⟨(Nat.le_of_ble_eq_true rfl), (Nat.le_of_ble_eq_true rfl)⟩) hZ (fun r74 V71 n72 _ _ hw73 hZ => ?_)
                obtain ⟨rfl, hq75, ho77, hr76⟩ := hw73
                have hP := hP.trans hq75 (fun _ _ => rfl)
                have b78 := hq_rng r74
                refine lv_if_ne (tgt := 81) hx hb dX13_isKeyword_69 (by decide) (fun c79 => ?_) (fun c79 => ?_)
                · have c79 : ¬ (r74).toInt = (0 : Int) := fun h9 => c79 (hq_eqi.mpr h9)
                  refine lv_iconst (v := 1) hx hb dX13_isKeyword_81 (by decide) ?_
                  refine lv_goto (tgt := 86) hx hb dX13_isKeyword_82 (by decide) ?_
                  refine lv_istore_n (lv' := [(1, .int (1)), (0, .ref (mo))]) hx hb dX13_isKeyword_86 rfl hl (by decide) rfl (fun ls hl => ?_)
                  refine lv_iload_n hx hb dX13_isKeyword_87 rfl (lv_at hl 0 rfl) ?_
                  refine lv_if_ne (tgt := 163) hx hb dX13_isKeyword_88 (by decide) (fun c80 => ?_) (fun c80 => absurd c80 (by decide))
                  refine lv_iconst (v := 1) hx hb dX13_isKeyword_163 (by decide) ?_
                  refine lv_goto (tgt := 168) hx hb dX13_isKeyword_164 (by decide) ?_
                  exact hp_zret hx hb hr rfl hlocks hZ ⟨rfl, hP, ho77, (by decide)⟩ dX13_isKeyword_168
                · have c79 : (r74).toInt = (0 : Int) := hq_eqi.mp c79
                  refine lv_aload_n hx hb dX13_isKeyword_72 rfl (lv_at hl 0 rfl) ?_
                  refine va_ldcS (tx := (hp_so.getD 9 ("", 0, "")).2.2) (q := cs (100 + 9)) hx hb hown (hZ.2.2.2.2.2.2.2.2.2.2 9 (by decide)) dX13_isKeyword_73 ?_
                  refine hp_calli (hp_runV (As := [.ref (cs (100 + 9))]) (rest := []) hx hb hml hown hts (t_X13_is l D cs B G  V71 n hP.1 q hR (mo) h_mo 9 (by decide) ho77  (by omega) (by omega) (by omega) (by omega) (by omega) (by omega) (by omega) (by omega) (by assumption) ) hZ ho77 cv_X13_103 rfl rfl ⟨Nat.le_of_ble_eq_true rfl, Nat.le_of_ble_eq_true rfl⟩ rfl hl.1 rfl (Nat.le_of_ble_eq_true rfl) dX13_isKeyword_75 ⟨(Nat.le_of_ble_eq_true rfl), (Nat.le_of_ble_eq_true rfl)⟩) hZ (fun r84 V81 n82 _ _ hw83 hZ => ?_)
                  obtain ⟨rfl, hq85, ho87, hr86⟩ := hw83
                  have hP := hP.trans hq85 (fun _ _ => rfl)
                  have b88 := hq_rng r84
                  refine lv_if_eq (tgt := 85) hx hb dX13_isKeyword_78 (by decide) (fun c89 => ?_) (fun c89 => ?_)
                  · have c89 : (r84).toInt = (0 : Int) := hq_eqi.mp c89
                    refine lv_iconst (v := 0) hx hb dX13_isKeyword_85 (by decide) ?_
                    refine lv_istore_n (lv' := [(1, .int (0)), (0, .ref (mo))]) hx hb dX13_isKeyword_86 rfl hl (by decide) rfl (fun ls hl => ?_)
                    refine lv_iload_n hx hb dX13_isKeyword_87 rfl (lv_at hl 0 rfl) ?_
                    refine lv_if_ne (tgt := 163) hx hb dX13_isKeyword_88 (by decide) (fun c90 => absurd (by decide) c90) (fun c90 => ?_)
                    refine lv_aload_n hx hb dX13_isKeyword_91 rfl (lv_at hl 1 rfl) ?_
                    refine va_ldcS (tx := (hp_so.getD 10 ("", 0, "")).2.2) (q := cs (100 + 10)) hx hb hown (hZ.2.2.2.2.2.2.2.2.2.2 10 (by decide)) dX13_isKeyword_92 ?_
                    refine hp_calli (hp_runV (As := [.ref (cs (100 + 10))]) (rest := []) hx hb hml hown hts (t_X13_is l D cs B G  V81 n hP.1 q hR (mo) h_mo 10 (by decide) ho87  (by omega) (by omega) (by omega) (by omega) (by omega) (by omega) (by omega) (by omega) (by assumption) ) hZ ho87 cv_X13_103 rfl rfl ⟨Nat.le_of_ble_eq_true rfl, Nat.le_of_ble_eq_true rfl⟩ rfl hl.1 rfl (Nat.le_of_ble_eq_true rfl) dX13_isKeyword_94 ⟨(Nat.le_of_ble_eq_true rfl), (Nat.le_of_ble_eq_true rfl)⟩) hZ (fun r94 V91 n92 _ _ hw93 hZ => ?_)
                    obtain ⟨rfl, hq95, ho97, hr96⟩ := hw93
                    have hP := hP.trans hq95 (fun _ _ => rfl)
                    have b98 := hq_rng r94
                    refine lv_if_ne (tgt := 163) hx hb dX13_isKeyword_97 (by decide) (fun c99 => ?_) (fun c99 => ?_)
                    · have c99 : ¬ (r94).toInt = (0 : Int) := fun h9 => c99 (hq_eqi.mpr h9)
                      refine lv_iconst (v := 1) hx hb dX13_isKeyword_163 (by decide) ?_
                      refine lv_goto (tgt := 168) hx hb dX13_isKeyword_164 (by decide) ?_
                      exact hp_zret hx hb hr rfl hlocks hZ ⟨rfl, hP, ho97, (by decide)⟩ dX13_isKeyword_168
                    · have c99 : (r94).toInt = (0 : Int) := hq_eqi.mp c99
                      refine lv_aload_n hx hb dX13_isKeyword_100 rfl (lv_at hl 1 rfl) ?_
                      refine va_ldcS (tx := (hp_so.getD 11 ("", 0, "")).2.2) (q := cs (100 + 11)) hx hb hown (hZ.2.2.2.2.2.2.2.2.2.2 11 (by decide)) dX13_isKeyword_101 ?_
                      refine hp_calli (hp_runV (As := [.ref (cs (100 + 11))]) (rest := []) hx hb hml hown hts (t_X13_is l D cs B G  V91 n hP.1 q hR (mo) h_mo 11 (by decide) ho97  (by omega) (by omega) (by omega) (by omega) (by omega) (by omega) (by omega) (by omega) (by assumption) ) hZ ho97 cv_X13_103 rfl rfl ⟨Nat.le_of_ble_eq_true rfl, Nat.le_of_ble_eq_true rfl⟩ rfl hl.1 rfl (Nat.le_of_ble_eq_true rfl) dX13_isKeyword_103 ⟨(Nat.le_of_ble_eq_true rfl), (Nat.le_of_ble_eq_true rfl)⟩) hZ (fun r103 V100 n101 _ _ hw102 hZ => ?_)
                      obtain ⟨rfl, hq104, ho106, hr105⟩ := hw102
                      have hP := hP.trans hq104 (fun _ _ => rfl)
                      have b107 := hq_rng r103
                      refine lv_if_ne (tgt := 163) hx hb dX13_isKeyword_106 (by decide) (fun c108 => ?_) (fun c108 => ?_)
                      · have c108 : ¬ (r103).toInt = (0 : Int) := fun h9 => c108 (hq_eqi.mpr h9)
                        refine lv_iconst (v := 1) hx hb dX13_isKeyword_163 (by decide) ?_
                        refine lv_goto (tgt := 168) hx hb dX13_isKeyword_164 (by decide) ?_
                        exact hp_zret hx hb hr rfl hlocks hZ ⟨rfl, hP, ho106, (by decide)⟩ dX13_isKeyword_168
                      · have c108 : (r103).toInt = (0 : Int) := hq_eqi.mp c108
                        refine lv_aload_n hx hb dX13_isKeyword_109 rfl (lv_at hl 1 rfl) ?_
                        refine va_ldcS (tx := (hp_so.getD 12 ("", 0, "")).2.2) (q := cs (100 + 12)) hx hb hown (hZ.2.2.2.2.2.2.2.2.2.2 12 (by decide)) dX13_isKeyword_110 ?_
                        refine hp_calli (hp_runV (As := [.ref (cs (100 + 12))]) (rest := []) hx hb hml hown hts (t_X13_is l D cs B G  V100 n hP.1 q hR (mo) h_mo 12 (by decide) ho106  (by omega) (by omega) (by omega) (by omega) (by omega) (by omega) (by omega) (by omega) (by assumption) ) hZ ho106 cv_X13_103 rfl rfl ⟨Nat.le_of_ble_eq_true rfl, Nat.le_of_ble_eq_true rfl⟩ rfl hl.1 rfl (Nat.le_of_ble_eq_true rfl) dX13_isKeyword_112 ⟨(Nat.le_of_ble_eq_true rfl), (Nat.le_of_ble_eq_true rfl)⟩) hZ (fun r112 V109 n110 _ _ hw111 hZ => ?_)
                        obtain ⟨rfl, hq113, ho115, hr114⟩ := hw111
                        have hP := hP.trans hq113 (fun _ _ => rfl)
                        have b116 := hq_rng r112
                        refine lv_if_ne (tgt := 163) hx hb dX13_isKeyword_115 (by decide) (fun c117 => ?_) (fun c117 => ?_)
                        · have c117 : ¬ (r112).toInt = (0 : Int) := fun h9 => c117 (hq_eqi.mpr h9)
                          refine lv_iconst (v := 1) hx hb dX13_isKeyword_163 (by decide) ?_
                          refine lv_goto (tgt := 168) hx hb dX13_isKeyword_164 (by decide) ?_
                          exact hp_zret hx hb hr rfl hlocks hZ ⟨rfl, hP, ho115, (by decide)⟩ dX13_isKeyword_168
                        · have c117 : (r112).toInt = (0 : Int) := hq_eqi.mp c117
                          refine lv_aload_n hx hb dX13_isKeyword_118 rfl (lv_at hl 1 rfl) ?_
                          refine va_ldcS (tx := (hp_so.getD 13 ("", 0, "")).2.2) (q := cs (100 + 13)) hx hb hown (hZ.2.2.2.2.2.2.2.2.2.2 13 (by decide)) dX13_isKeyword_119 ?_
                          refine hp_calli (hp_runV (As := [.ref (cs (100 + 13))]) (rest := []) hx hb hml hown hts (t_X13_is l D cs B G  V109 n hP.1 q hR (mo) h_mo 13 (by decide) ho115  (by omega) (by omega) (by omega) (by omega) (by omega) (by omega) (by omega) (by omega) (by assumption) ) hZ ho115 cv_X13_103 rfl rfl ⟨Nat.le_of_ble_eq_true rfl, Nat.le_of_ble_eq_true rfl⟩ rfl hl.1 rfl (Nat.le_of_ble_eq_true rfl) dX13_isKeyword_121 ⟨(Nat.le_of_ble_eq_true rfl), (Nat.le_of_ble_eq_true rfl)⟩) hZ (fun r121 V118 n119 _ _ hw120 hZ => ?_)
                          obtain ⟨rfl, hq122, ho124, hr123⟩ := hw120
                          have hP := hP.trans hq122 (fun _ _ => rfl)
                          have b125 := hq_rng r121
                          refine lv_if_ne (tgt := 163) hx hb dX13_isKeyword_124 (by decide) (fun c126 => ?_) (fun c126 => ?_)
                          · have c126 : ¬ (r121).toInt = (0 : Int) := fun h9 => c126 (hq_eqi.mpr h9)
                            refine lv_iconst (v := 1) hx hb dX13_isKeyword_163 (by decide) ?_
                            refine lv_goto (tgt := 168) hx hb dX13_isKeyword_164 (by decide) ?_
                            exact hp_zret hx hb hr rfl hlocks hZ ⟨rfl, hP, ho124, (by decide)⟩ dX13_isKeyword_168
                          · have c126 : (r121).toInt = (0 : Int) := hq_eqi.mp c126
                            refine lv_aload_n hx hb dX13_isKeyword_127 rfl (lv_at hl 1 rfl) ?_
                            refine va_ldcS (tx := (hp_so.getD 14 ("", 0, "")).2.2) (q := cs (100 + 14)) hx hb hown (hZ.2.2.2.2.2.2.2.2.2.2 14 (by decide)) dX13_isKeyword_128 ?_
                            refine hp_calli (hp_runV (As := [.ref (cs (100 + 14))]) (rest := []) hx hb hml hown hts (t_X13_is l D cs B G  V118 n hP.1 q hR (mo) h_mo 14 (by decide) ho124  (by omega) (by omega) (by omega) (by omega) (by omega) (by omega) (by omega) (by omega) (by assumption) ) hZ ho124 cv_X13_103 rfl rfl ⟨Nat.le_of_ble_eq_true rfl, Nat.le_of_ble_eq_true rfl⟩ rfl hl.1 rfl (Nat.le_of_ble_eq_true rfl) dX13_isKeyword_130 ⟨(Nat.le_of_ble_eq_true rfl), (Nat.le_of_ble_eq_true rfl)⟩) hZ (fun r130 V127 n128 _ _ hw129 hZ => ?_)
                            obtain ⟨rfl, hq131, ho133, hr132⟩ := hw129
                            have hP := hP.trans hq131 (fun _ _ => rfl)
                            have b134 := hq_rng r130
                            refine lv_if_ne (tgt := 163) hx hb dX13_isKeyword_133 (by decide) (fun c135 => ?_) (fun c135 => ?_)
                            · have c135 : ¬ (r130).toInt = (0 : Int) := fun h9 => c135 (hq_eqi.mpr h9)
                              refine lv_iconst (v := 1) hx hb dX13_isKeyword_163 (by decide) ?_
                              refine lv_goto (tgt := 168) hx hb dX13_isKeyword_164 (by decide) ?_
                              exact hp_zret hx hb hr rfl hlocks hZ ⟨rfl, hP, ho133, (by decide)⟩ dX13_isKeyword_168
                            · have c135 : (r130).toInt = (0 : Int) := hq_eqi.mp c135
                              refine lv_aload_n hx hb dX13_isKeyword_136 rfl (lv_at hl 1 rfl) ?_
                              refine va_ldcS (tx := (hp_so.getD 15 ("", 0, "")).2.2) (q := cs (100 + 15)) hx hb hown (hZ.2.2.2.2.2.2.2.2.2.2 15 (by decide)) dX13_isKeyword_137 ?_
                              refine hp_calli (hp_runV (As := [.ref (cs (100 + 15))]) (rest := []) hx hb hml hown hts (t_X13_is l D cs B G  V127 n hP.1 q hR (mo) h_mo 15 (by decide) ho133  (by omega) (by omega) (by omega) (by omega) (by omega) (by omega) (by omega) (by omega) (by assumption) ) hZ ho133 cv_X13_103 rfl rfl ⟨Nat.le_of_ble_eq_true rfl, Nat.le_of_ble_eq_true rfl⟩ rfl hl.1 rfl (Nat.le_of_ble_eq_true rfl) dX13_isKeyword_139 ⟨(Nat.le_of_ble_eq_true rfl), (Nat.le_of_ble_eq_true rfl)⟩) hZ (fun r139 V136 n137 _ _ hw138 hZ => ?_)
                              obtain ⟨rfl, hq140, ho142, hr141⟩ := hw138
                              have hP := hP.trans hq140 (fun _ _ => rfl)
                              have b143 := hq_rng r139
                              refine lv_if_ne (tgt := 163) hx hb dX13_isKeyword_142 (by decide) (fun c144 => ?_) (fun c144 => ?_)
                              · have c144 : ¬ (r139).toInt = (0 : Int) := fun h9 => c144 (hq_eqi.mpr h9)
                                refine lv_iconst (v := 1) hx hb dX13_isKeyword_163 (by decide) ?_
                                refine lv_goto (tgt := 168) hx hb dX13_isKeyword_164 (by decide) ?_
                                exact hp_zret hx hb hr rfl hlocks hZ ⟨rfl, hP, ho142, (by decide)⟩ dX13_isKeyword_168
                              · have c144 : (r139).toInt = (0 : Int) := hq_eqi.mp c144
                                refine lv_aload_n hx hb dX13_isKeyword_145 rfl (lv_at hl 1 rfl) ?_
                                refine va_ldcS (tx := (hp_so.getD 16 ("", 0, "")).2.2) (q := cs (100 + 16)) hx hb hown (hZ.2.2.2.2.2.2.2.2.2.2 16 (by decide)) dX13_isKeyword_146 ?_
                                refine hp_calli (hp_runV (As := [.ref (cs (100 + 16))]) (rest := []) hx hb hml hown hts (t_X13_is l D cs B G  V136 n hP.1 q hR (mo) h_mo 16 (by decide) ho142  (by omega) (by omega) (by omega) (by omega) (by omega) (by omega) (by omega) (by omega) (by assumption) ) hZ ho142 cv_X13_103 rfl rfl ⟨Nat.le_of_ble_eq_true rfl, Nat.le_of_ble_eq_true rfl⟩ rfl hl.1 rfl (Nat.le_of_ble_eq_true rfl) dX13_isKeyword_148 ⟨(Nat.le_of_ble_eq_true rfl), (Nat.le_of_ble_eq_true rfl)⟩) hZ (fun r148 V145 n146 _ _ hw147 hZ => ?_)
                                obtain ⟨rfl, hq149, ho151, hr150⟩ := hw147
                                have hP := hP.trans hq149 (fun _ _ => rfl)
                                have b152 := hq_rng r148
                                refine lv_if_ne (tgt := 163) hx hb dX13_isKeyword_151 (by decide) (fun c153 => ?_) (fun c153 => ?_)
                                · have c153 : ¬ (r148).toInt = (0 : Int) := fun h9 => c153 (hq_eqi.mpr h9)
                                  refine lv_iconst (v := 1) hx hb dX13_isKeyword_163 (by decide) ?_
                                  refine lv_goto (tgt := 168) hx hb dX13_isKeyword_164 (by decide) ?_
                                  exact hp_zret hx hb hr rfl hlocks hZ ⟨rfl, hP, ho151, (by decide)⟩ dX13_isKeyword_168
                                · have c153 : (r148).toInt = (0 : Int) := hq_eqi.mp c153
                                  refine lv_aload_n hx hb dX13_isKeyword_154 rfl (lv_at hl 1 rfl) ?_
                                  refine va_ldcS (tx := (hp_so.getD 17 ("", 0, "")).2.2) (q := cs (100 + 17)) hx hb hown (hZ.2.2.2.2.2.2.2.2.2.2 17 (by decide)) dX13_isKeyword_155 ?_
                                  refine hp_calli (hp_runV (As := [.ref (cs (100 + 17))]) (rest := []) hx hb hml hown hts (t_X13_is l D cs B G  V145 n hP.1 q hR (mo) h_mo 17 (by decide) ho151  (by omega) (by omega) (by omega) (by omega) (by omega) (by omega) (by omega) (by omega) (by assumption) ) hZ ho151 cv_X13_103 rfl rfl ⟨Nat.le_of_ble_eq_true rfl, Nat.le_of_ble_eq_true rfl⟩ rfl hl.1 rfl (Nat.le_of_ble_eq_true rfl) dX13_isKeyword_157 ⟨(Nat.le_of_ble_eq_true rfl), (Nat.le_of_ble_eq_true rfl)⟩) hZ (fun r157 V154 n155 _ _ hw156 hZ => ?_)
                                  obtain ⟨rfl, hq158, ho160, hr159⟩ := hw156
                                  have hP := hP.trans hq158 (fun _ _ => rfl)
                                  have b161 := hq_rng r157
                                  refine lv_if_eq (tgt := 167) hx hb dX13_isKeyword_160 (by decide) (fun c162 => ?_) (fun c162 => ?_)
                                  · have c162 : (r157).toInt = (0 : Int) := hq_eqi.mp c162
                                    refine lv_iconst (v := 0) hx hb dX13_isKeyword_167 (by decide) ?_
                                    exact hp_zret hx hb hr rfl hlocks hZ ⟨rfl, hP, ho160, (by decide)⟩ dX13_isKeyword_168
                                  · have c162 : ¬ (r157).toInt = (0 : Int) := fun h9 => c162 (hq_eqi.mpr h9)
                                    refine lv_iconst (v := 1) hx hb dX13_isKeyword_163 (by decide) ?_
                                    refine lv_goto (tgt := 168) hx hb dX13_isKeyword_164 (by decide) ?_
                                    exact hp_zret hx hb hr rfl hlocks hZ ⟨rfl, hP, ho160, (by decide)⟩ dX13_isKeyword_168
                  · have c89 : ¬ (r84).toInt = (0 : Int) := fun h9 => c89 (hq_eqi.mpr h9)
                    refine lv_iconst (v := 1) hx hb dX13_isKeyword_81 (by decide) ?_
                    refine lv_goto (tgt := 86) hx hb dX13_isKeyword_82 (by decide) ?_
                    refine lv_istore_n (lv' := [(1, .int (1)), (0, .ref (mo))]) hx hb dX13_isKeyword_86 rfl hl (by decide) rfl (fun ls hl => ?_)
                    refine lv_iload_n hx hb dX13_isKeyword_87 rfl (lv_at hl 0 rfl) ?_
                    refine lv_if_ne (tgt := 163) hx hb dX13_isKeyword_88 (by decide) (fun c163 => ?_) (fun c163 => absurd c163 (by decide))
                    refine lv_iconst (v := 1) hx hb dX13_isKeyword_163 (by decide) ?_
                    refine lv_goto (tgt := 168) hx hb dX13_isKeyword_164 (by decide) ?_
                    exact hp_zret hx hb hr rfl hlocks hZ ⟨rfl, hP, ho87, (by decide)⟩ dX13_isKeyword_168

set_option maxHeartbeats 4000000 in
set_option maxRecDepth 100000 in
theorem t_X13_need (l : Launch) (D : va_G) (cs : Nat → ClassId) (B : Nat) (G : hq_G) (V : hp_V) (n : Nat) (hI : hq_I cs G V) (q : Nat) (hR : hq_RT G q) (mo : Nat) (h_mo : G mo = some (24, 0, 0, 0)) (i : Nat) (h_i : i < 18) {m_tp m_sz m_fr m_bh m_hd m_ft m_fa m_le m_fo m_as m_fd m_bc m_bg m_bs m_be m_b0 m_b1 m_cm m_hc : Int32} (ho_mo : V mo = some (.inr (13, hm_o q (m_tp) (m_sz) (m_fr) (m_bh) (m_hd) (m_ft) (m_fa) (m_le) (m_fo) (m_as) (m_fd) (m_bc) (m_bg) (m_bs) (m_be) (m_b0) (m_b1) (m_cm) (m_hc)))) (hi_mo0 : 0 ≤ m_tp.toInt ∧ m_tp.toInt ≤ 4000) (hi_mo1 : 0 ≤ m_sz.toInt ∧ m_sz.toInt ≤ 4000) (hi_mo2 : 0 ≤ m_le.toInt ∧ m_le.toInt ≤ 276) (hi_mo3 : 0 ≤ m_fo.toInt ∧ m_fo.toInt ≤ 4) (hi_mo4 : 0 ≤ m_as.toInt ∧ m_as.toInt ≤ 4000) (hi_mo5 : 0 ≤ m_fd.toInt ∧ m_fd.toInt ≤ 900) (hi_mo6 : 0 ≤ m_cm.toInt ∧ m_cm.toInt ≤ 2) (hi_mo7 : 0 ≤ m_hc.toInt ∧ m_hc.toInt ≤ 1) (hi_mo8 : hm_SC m_sz m_fr m_bh m_hd) : hq_M l yX13_need cX13_need 2 none ({ frames := 6, cells := 0, slots := 0, locals := 129 }) D cs B V n [.ref (mo), .ref (cs (100 + i))] (hq_QX D cs B (fun v V' n' => v = none ∧ n = n' ∧ hq_P cs G (fun g => g.1 == 1) V V' ∧ (∃ (m_fr1 : Int32) (m_bh1 : Int32) (m_hd1 : Int32) (m_ft1 : Int32) (m_fa1 : Int32), V' mo = some (.inr (13, hm_o q (m_tp) (m_sz) (m_fr1) (m_bh1) (m_hd1) (m_ft1) (m_fa1) (m_le) (m_fo) (m_as) (m_fd) (m_bc) (m_bg) (m_bs) (m_be) (m_b0) (m_b1) (m_cm) (m_hc))) ∧ (hm_SC m_sz m_fr1 m_bh1 m_hd1))) (fun x V' n' => x = q + 19 ∧ n = n' ∧ hq_P cs G (fun g => g.1 == 1) V V' ∧ (∃ (m_fr1 : Int32) (m_bh1 : Int32) (m_hd1 : Int32) (m_ft1 : Int32) (m_fa1 : Int32), V' mo = some (.inr (13, hm_o q (m_tp) (m_sz) (m_fr1) (m_bh1) (m_hd1) (m_ft1) (m_fa1) (m_le) (m_fo) (m_as) (m_fd) (m_bc) (m_bg) (m_bs) (m_be) (m_b0) (m_b1) (m_cm) (m_hc))) ∧ (hm_SC m_sz m_fr1 m_bh1 m_hd1)))) 0 0 := by
  refine hq_walk (R0 := RX13) (by decide) rfl ?_ (Nat.le_of_ble_eq_true rfl)
  intro p e s m below meth c ls hx hb hr hts hown hlocks hin hml hnx hZ hl
  have hP : hq_P cs G (fun g => g.1 == 1) V V := hq_P.rf hI
  have hl : lv_has ls 2 [(0, .ref (mo)), (1, .ref (cs (100 + i)))] := hl
  have hb_m_tp := hq_rng m_tp
  have hb_m_sz := hq_rng m_sz
  have hb_m_fr := hq_rng m_fr
  have hb_m_bh := hq_rng m_bh
  have hb_m_hd := hq_rng m_hd
  have hb_m_ft := hq_rng m_ft
  have hb_m_fa := hq_rng m_fa
  have hb_m_le := hq_rng m_le
  have hb_m_fo := hq_rng m_fo
  have hb_m_as := hq_rng m_as
  have hb_m_fd := hq_rng m_fd
  have hb_m_bc := hq_rng m_bc
  have hb_m_bg := hq_rng m_bg
  have hb_m_bs := hq_rng m_bs
  have hb_m_be := hq_rng m_be
  have hb_m_b0 := hq_rng m_b0
  have hb_m_b1 := hq_rng m_b1
  have hb_m_cm := hq_rng m_cm
  have hb_m_hc := hq_rng m_hc
  refine lv_aload_n hx hb dX13_need_0 rfl (lv_at hl 0 rfl) ?_
  refine lv_aload_n hx hb dX13_need_1 rfl (lv_at hl 1 rfl) ?_
  refine hp_calli (hp_runV (As := [.ref (cs (100 + i))]) (rest := []) hx hb hml hown hts (t_X13_is l D cs B G  V n hP.1 q hR (mo) h_mo i h_i ho_mo  (by omega) (by omega) (by omega) (by omega) (by omega) (by omega) (by omega) (by omega) (by assumption) ) hZ ho_mo cv_X13_103 rfl rfl ⟨Nat.le_of_ble_eq_true rfl, Nat.le_of_ble_eq_true rfl⟩ rfl hl.1 rfl (Nat.le_of_ble_eq_true rfl) dX13_need_2 ⟨(Nat.le_of_ble_eq_true rfl), (Nat.le_of_ble_eq_true rfl)⟩) hZ (fun r4 V1 n2 _ _ hw3 hZ => ?_)
  obtain ⟨rfl, hq5, ho7, hr6⟩ := hw3
  have hP := hP.trans hq5 (fun _ _ => rfl)
  have b8 := hq_rng r4
  refine lv_if_ne (tgt := 14) hx hb dX13_need_5 (by decide) (fun c9 => ?_) (fun c9 => ?_)
  · have c9 : ¬ (r4).toInt = (0 : Int) := fun h9 => c9 (hq_eqi.mpr h9)
    refine lv_aload_n hx hb dX13_need_14 rfl (lv_at hl 0 rfl) ?_
    refine hp_callv (hp_runV (As := []) (rest := []) hx hb hml hown hts (t_X13_scan l D cs B G  V1 n hP.1 q hR (mo) h_mo ho7  (by omega) (by omega) (by omega) (by omega) (by omega) (by omega) (by omega) (by omega) (hm_SC.s0 (by assumption)) (hm_SC.s1 (by assumption) (by first | omega | (have h8 := hm_Is.hd (by assumption) (by omega); omega)))) hZ ho7 cv_X13_111 rfl rfl ⟨Nat.le_of_ble_eq_true rfl, Nat.le_of_ble_eq_true rfl⟩ rfl hl.1 rfl (Nat.le_of_ble_eq_true rfl) dX13_need_15 ⟨(Nat.le_of_ble_eq_true rfl), (Nat.le_of_ble_eq_true rfl)⟩) hZ (fun V10 n11 _ _ hw12 hZ => ?_)
    obtain ⟨rfl, hq14, ⟨z16, z17, z18, ho19, hi20⟩⟩ := hw12
    have hP := hP.trans hq14 (by intro g h; simp_all)
    have b21 := hq_rng z16
    have b22 := hq_rng z17
    have b23 := hq_rng z18
    exact hq_vret hx hb hr hlocks hZ ⟨rfl, rfl, hP, ⟨z16, z17, z18, m_ft, m_fa, ho19, by assumption⟩⟩ dX13_need_18
  · have c9 : (r4).toInt = (0 : Int) := hq_eqi.mp c9
    refine lv_aload_n hx hb dX13_need_8 rfl (lv_at hl 0 rfl) ?_
    refine lv_iconst (v := 1) hx hb dX13_need_9 (by decide) ?_
    have hl33 : (1 : Int32).toInt = 1 := by decide
    refine hp_callq (hp_runV (As := [.int (1)]) (rest := []) hx hb hml hown hts (t_X13_wrong l D cs B G  V1 n hP.1 q hR (mo) h_mo (1) ho7  (by omega) (by omega) (by omega) (by omega) (by omega) (by omega) (by omega) (by omega) ) hZ ho7 cv_X13_107 rfl rfl ⟨Nat.le_of_ble_eq_true rfl, Nat.le_of_ble_eq_true rfl⟩ rfl hl.1 rfl (Nat.le_of_ble_eq_true rfl) dX13_need_10 ⟨(Nat.le_of_ble_eq_true rfl), (Nat.le_of_ble_eq_true rfl)⟩) hZ (fun r27 V24 n25 _ _ hw26 hZ => ?_)
    obtain ⟨rfl, hq28, ⟨z30, z31, ho32⟩, hr29⟩ := hw26
    have hP := hP.trans hq28 (by intro g h; simp_all)
    have b34 := hq_rng z30
    have b35 := hq_rng z31
    subst hr29
    refine W.eq (g2 := F0 m 13 ls [.ref (q + 19)]) rfl ?_
    exact hq_athrow hx hb hnx hlocks hZ ⟨rfl, rfl, hP, ⟨m_fr, m_bh, m_hd, z30, z31, ho32, by assumption⟩⟩ dX13_need_13

set_option maxHeartbeats 4000000 in
set_option maxRecDepth 100000 in
theorem t_X13_needName (l : Launch) (D : va_G) (cs : Nat → ClassId) (B : Nat) (G : hq_G) (V : hp_V) (n : Nat) (hI : hq_I cs G V) (q : Nat) (hR : hq_RT G q) (mo : Nat) (h_mo : G mo = some (24, 0, 0, 0)) {m_tp m_sz m_fr m_bh m_hd m_ft m_fa m_le m_fo m_as m_fd m_bc m_bg m_bs m_be m_b0 m_b1 m_cm m_hc : Int32} (ho_mo : V mo = some (.inr (13, hm_o q (m_tp) (m_sz) (m_fr) (m_bh) (m_hd) (m_ft) (m_fa) (m_le) (m_fo) (m_as) (m_fd) (m_bc) (m_bg) (m_bs) (m_be) (m_b0) (m_b1) (m_cm) (m_hc)))) (hi_mo0 : 0 ≤ m_tp.toInt ∧ m_tp.toInt ≤ 4000) (hi_mo1 : 0 ≤ m_sz.toInt ∧ m_sz.toInt ≤ 4000) (hi_mo2 : 0 ≤ m_le.toInt ∧ m_le.toInt ≤ 276) (hi_mo3 : 0 ≤ m_fo.toInt ∧ m_fo.toInt ≤ 4) (hi_mo4 : 0 ≤ m_as.toInt ∧ m_as.toInt ≤ 4000) (hi_mo5 : 0 ≤ m_fd.toInt ∧ m_fd.toInt ≤ 900) (hi_mo6 : 0 ≤ m_cm.toInt ∧ m_cm.toInt ≤ 2) (hi_mo7 : 0 ≤ m_hc.toInt ∧ m_hc.toInt ≤ 1) (hi_mo8 : hm_SC m_sz m_fr m_bh m_hd) : hq_M l yX13_needName cX13_needName 1 none ({ frames := 7, cells := 0, slots := 0, locals := 150 }) D cs B V n [.ref (mo)] (hq_QX D cs B (fun v V' n' => v = none ∧ n = n' ∧ hq_P cs G (fun g => g.1 == 1) V V' ∧ (∃ (m_ft1 : Int32) (m_fa1 : Int32), V' mo = some (.inr (13, hm_o q (m_tp) (m_sz) (m_fr) (m_bh) (m_hd) (m_ft1) (m_fa1) (m_le) (m_fo) (m_as) (m_fd) (m_bc) (m_bg) (m_bs) (m_be) (m_b0) (m_b1) (m_cm) (m_hc)))) ∧ (m_hd.toInt = 1)) (fun x V' n' => x = q + 19 ∧ n = n' ∧ hq_P cs G (fun g => g.1 == 1) V V' ∧ (∃ (m_ft1 : Int32) (m_fa1 : Int32), V' mo = some (.inr (13, hm_o q (m_tp) (m_sz) (m_fr) (m_bh) (m_hd) (m_ft1) (m_fa1) (m_le) (m_fo) (m_as) (m_fd) (m_bc) (m_bg) (m_bs) (m_be) (m_b0) (m_b1) (m_cm) (m_hc)))))) 0 0 := by
  refine hq_walk (R0 := RX13) (by decide) rfl ?_ (Nat.le_of_ble_eq_true rfl)
  intro p e s m below meth c ls hx hb hr hts hown hlocks hin hml hnx hZ hl
  have hP : hq_P cs G (fun g => g.1 == 1) V V := hq_P.rf hI
  have hl : lv_has ls 1 [(0, .ref (mo))] := hl
  have hb_m_tp := hq_rng m_tp
  have hb_m_sz := hq_rng m_sz
  have hb_m_fr := hq_rng m_fr
  have hb_m_bh := hq_rng m_bh
  have hb_m_hd := hq_rng m_hd
  have hb_m_ft := hq_rng m_ft
  have hb_m_fa := hq_rng m_fa
  have hb_m_le := hq_rng m_le
  have hb_m_fo := hq_rng m_fo
  have hb_m_as := hq_rng m_as
  have hb_m_fd := hq_rng m_fd
  have hb_m_bc := hq_rng m_bc
  have hb_m_bg := hq_rng m_bg
  have hb_m_bs := hq_rng m_bs
  have hb_m_be := hq_rng m_be
  have hb_m_b0 := hq_rng m_b0
  have hb_m_b1 := hq_rng m_b1
  have hb_m_cm := hq_rng m_cm
  have hb_m_hc := hq_rng m_hc
  refine lv_aload_n hx hb dX13_needName_0 rfl (lv_at hl 0 rfl) ?_
  refine hp_get (v := .int (m_hd)) hx hb hts hown hZ ho_mo fl_X13_83 rfl dX13_needName_1 ?_
  refine lv_iconst (v := 1) hx hb dX13_needName_4 (by decide) ?_
  refine lv_icmp_ne (tgt := 15) hx hb dX13_needName_5 (by decide) (fun c1 => ?_) (fun c1 => ?_)
  · have c1 : ¬ (m_hd).toInt = (1 : Int) := fun h9 => c1 (hq_eqi.mpr h9)
    refine lv_aload_n hx hb dX13_needName_15 rfl (lv_at hl 0 rfl) ?_
    refine lv_iconst (v := 1) hx hb dX13_needName_16 (by decide) ?_
    have hl11 : (1 : Int32).toInt = 1 := by decide
    refine hp_callq (hp_runV (As := [.int (1)]) (rest := []) hx hb hml hown hts (t_X13_wrong l D cs B G  V n hP.1 q hR (mo) h_mo (1) ho_mo  (by omega) (by omega) (by omega) (by omega) (by omega) (by omega) (by omega) (by omega) ) hZ ho_mo cv_X13_107 rfl rfl ⟨Nat.le_of_ble_eq_true rfl, Nat.le_of_ble_eq_true rfl⟩ rfl hl.1 rfl (Nat.le_of_ble_eq_true rfl) dX13_needName_17 ⟨(Nat.le_of_ble_eq_true rfl), (Nat.le_of_ble_eq_true rfl)⟩) hZ (fun r5 V2 n3 _ _ hw4 hZ => ?_)
    obtain ⟨rfl, hq6, ⟨z8, z9, ho10⟩, hr7⟩ := hw4
    have hP := hP.trans hq6 (by intro g h; simp_all)
    have b12 := hq_rng z8
    have b13 := hq_rng z9
    subst hr7
    refine W.eq (g2 := F0 m 20 ls [.ref (q + 19)]) rfl ?_
    exact hq_athrow hx hb hnx hlocks hZ ⟨rfl, rfl, hP, ⟨z8, z9, ho10⟩⟩ dX13_needName_20
  · have c1 : (m_hd).toInt = (1 : Int) := hq_eqi.mp c1
    refine lv_aload_n hx hb dX13_needName_8 rfl (lv_at hl 0 rfl) ?_
    refine hp_calli (hp_runV (As := []) (rest := []) hx hb hml hown hts (t_X13_isKeyword l D cs B G  V n hP.1 q hR (mo) h_mo ho_mo  (by omega) (by omega) (by omega) (by omega) (by omega) (by omega) (by omega) (by omega) (by assumption) ) hZ ho_mo cv_X13_146 rfl rfl ⟨Nat.le_of_ble_eq_true rfl, Nat.le_of_ble_eq_true rfl⟩ rfl hl.1 rfl (Nat.le_of_ble_eq_true rfl) dX13_needName_9 ⟨(Nat.le_of_ble_eq_true rfl), (Nat.le_of_ble_eq_true rfl)⟩) hZ (fun r17 V14 n15 _ _ hw16 hZ => ?_)
    obtain ⟨rfl, hq18, ho20, hr19⟩ := hw16
    have hP := hP.trans hq18 (fun _ _ => rfl)
    have b21 := hq_rng r17
    refine lv_if_eq (tgt := 21) hx hb dX13_needName_12 (by decide) (fun c22 => ?_) (fun c22 => ?_)
    · have c22 : (r17).toInt = (0 : Int) := hq_eqi.mp c22
      exact hq_vret hx hb hr hlocks hZ ⟨rfl, rfl, hP, ⟨m_ft, m_fa, ho20⟩, (by omega)⟩ dX13_needName_21
    · have c22 : ¬ (r17).toInt = (0 : Int) := fun h9 => c22 (hq_eqi.mpr h9)
      refine lv_aload_n hx hb dX13_needName_15 rfl (lv_at hl 0 rfl) ?_
      refine lv_iconst (v := 1) hx hb dX13_needName_16 (by decide) ?_
      have hl32 : (1 : Int32).toInt = 1 := by decide
      refine hp_callq (hp_runV (As := [.int (1)]) (rest := []) hx hb hml hown hts (t_X13_wrong l D cs B G  V14 n hP.1 q hR (mo) h_mo (1) ho20  (by omega) (by omega) (by omega) (by omega) (by omega) (by omega) (by omega) (by omega) ) hZ ho20 cv_X13_107 rfl rfl ⟨Nat.le_of_ble_eq_true rfl, Nat.le_of_ble_eq_true rfl⟩ rfl hl.1 rfl (Nat.le_of_ble_eq_true rfl) dX13_needName_17 ⟨(Nat.le_of_ble_eq_true rfl), (Nat.le_of_ble_eq_true rfl)⟩) hZ (fun r26 V23 n24 _ _ hw25 hZ => ?_)
      obtain ⟨rfl, hq27, ⟨z29, z30, ho31⟩, hr28⟩ := hw25
      have hP := hP.trans hq27 (by intro g h; simp_all)
      have b33 := hq_rng z29
      have b34 := hq_rng z30
      subst hr28
      refine W.eq (g2 := F0 m 20 ls [.ref (q + 19)]) rfl ?_
      exact hq_athrow hx hb hnx hlocks hZ ⟨rfl, rfl, hP, ⟨z29, z30, ho31⟩⟩ dX13_needName_20

set_option maxHeartbeats 4000000 in
set_option maxRecDepth 100000 in
theorem t_X13_digit (l : Launch) (D : va_G) (cs : Nat → ClassId) (B : Nat) (G : hq_G) (V : hp_V) (n : Nat) (hI : hq_I cs G V) (q : Nat) (hR : hq_RT G q) (mo : Nat) (h_mo : G mo = some (24, 0, 0, 0)) (k : Int32) {m_tp m_sz m_fr m_bh m_hd m_ft m_fa m_le m_fo m_as m_fd m_bc m_bg m_bs m_be m_b0 m_b1 m_cm m_hc : Int32} (ho_mo : V mo = some (.inr (13, hm_o q (m_tp) (m_sz) (m_fr) (m_bh) (m_hd) (m_ft) (m_fa) (m_le) (m_fo) (m_as) (m_fd) (m_bc) (m_bg) (m_bs) (m_be) (m_b0) (m_b1) (m_cm) (m_hc)))) (hi_mo0 : 0 ≤ m_tp.toInt ∧ m_tp.toInt ≤ 4000) (hi_mo1 : 0 ≤ m_sz.toInt ∧ m_sz.toInt ≤ 4000) (hi_mo2 : 0 ≤ m_le.toInt ∧ m_le.toInt ≤ 276) (hi_mo3 : 0 ≤ m_fo.toInt ∧ m_fo.toInt ≤ 4) (hi_mo4 : 0 ≤ m_as.toInt ∧ m_as.toInt ≤ 4000) (hi_mo5 : 0 ≤ m_fd.toInt ∧ m_fd.toInt ≤ 900) (hi_mo6 : 0 ≤ m_cm.toInt ∧ m_cm.toInt ≤ 2) (hi_mo7 : 0 ≤ m_hc.toInt ∧ m_hc.toInt ≤ 1) (hi_mo8 : hm_SC m_sz m_fr m_bh m_hd) : hq_M l yX13_digit cX13_digit 3 (some .int) ({ frames := 3, cells := 0, slots := 0, locals := 64 }) D cs B V n [.ref (mo), .int (k)] (hq_QX D cs B (fun v V' n' => ∃ r : Int32, v = some (.int r) ∧ n = n' ∧ hq_P cs G (fun g => g.1 == 1) V V' ∧ (∃ (m_fr1 : Int32) (m_bh1 : Int32) (m_hd1 : Int32) (m_ft1 : Int32) (m_fa1 : Int32), V' mo = some (.inr (13, hm_o q (m_tp) (m_sz) (m_fr1) (m_bh1) (m_hd1) (m_ft1) (m_fa1) (m_le) (m_fo) (m_as) (m_fd) (m_bc) (m_bg) (m_bs) (m_be) (m_b0) (m_b1) (m_cm) (m_hc))) ∧ (hm_SC m_sz m_fr1 m_bh1 m_hd1)) ∧ True) (fun x V' n' => x = q + 19 ∧ n = n' ∧ hq_P cs G (fun g => g.1 == 1) V V' ∧ (∃ (m_fr1 : Int32) (m_bh1 : Int32) (m_hd1 : Int32) (m_ft1 : Int32) (m_fa1 : Int32), V' mo = some (.inr (13, hm_o q (m_tp) (m_sz) (m_fr1) (m_bh1) (m_hd1) (m_ft1) (m_fa1) (m_le) (m_fo) (m_as) (m_fd) (m_bc) (m_bg) (m_bs) (m_be) (m_b0) (m_b1) (m_cm) (m_hc))) ∧ (hm_SC m_sz m_fr1 m_bh1 m_hd1)))) 0 0 := by
  refine hq_walk (R0 := RX13) (by decide) rfl ?_ (Nat.le_of_ble_eq_true rfl)
  intro p e s m below meth c ls hx hb hr hts hown hlocks hin hml hnx hZ hl
  have hP : hq_P cs G (fun g => g.1 == 1) V V := hq_P.rf hI
  have hl : lv_has ls 3 [(0, .ref (mo)), (1, .int (k))] := hl
  have hb_k := hq_rng k
  have hb_m_tp := hq_rng m_tp
  have hb_m_sz := hq_rng m_sz
  have hb_m_fr := hq_rng m_fr
  have hb_m_bh := hq_rng m_bh
  have hb_m_hd := hq_rng m_hd
  have hb_m_ft := hq_rng m_ft
  have hb_m_fa := hq_rng m_fa
  have hb_m_le := hq_rng m_le
  have hb_m_fo := hq_rng m_fo
  have hb_m_as := hq_rng m_as
  have hb_m_fd := hq_rng m_fd
  have hb_m_bc := hq_rng m_bc
  have hb_m_bg := hq_rng m_bg
  have hb_m_bs := hq_rng m_bs
  have hb_m_be := hq_rng m_be
  have hb_m_b0 := hq_rng m_b0
  have hb_m_b1 := hq_rng m_b1
  have hb_m_cm := hq_rng m_cm
  have hb_m_hc := hq_rng m_hc
  have hscu := hm_SC.out (by assumption)
  refine lv_aload_n hx hb dX13_digit_0 rfl (lv_at hl 0 rfl) ?_
  refine hp_get (v := .int (m_hd)) hx hb hts hown hZ ho_mo fl_X13_83 rfl dX13_digit_1 ?_
  refine lv_iconst (v := 2) hx hb dX13_digit_4 (by decide) ?_
  refine lv_icmp_eq (tgt := 14) hx hb dX13_digit_5 (by decide) (fun c1 => ?_) (fun c1 => ?_)
  · have c1 : (m_hd).toInt = (2 : Int) := hq_eqi.mp c1
    refine lv_aload_n hx hb dX13_digit_14 rfl (lv_at hl 0 rfl) ?_
    refine hp_get (v := .ref (q + 20)) hx hb hts hown hZ ho_mo fl_X13_73 rfl dX13_digit_15 ?_
    refine lv_aload_n hx hb dX13_digit_18 rfl (lv_at hl 0 rfl) ?_
    refine hp_get (v := .int (m_fr)) hx hb hts hown hZ ho_mo fl_X13_60 rfl dX13_digit_19 ?_
    obtain ⟨hN4, g3, eV2⟩ := hq_o20 hP.1 (hr_20 hR)
    refine hp_bald hx hb hZ eV2 (hq_in (by omega) (by omega)) dX13_digit_22 ?_
    refine lv_topi (fun y6 ey7 => ?_)
    have b8 := hq_rng y6
    refine lv_bipush (v := 48) hx hb dX13_digit_23 (by decide) ?_
    refine lv_isub hx hb dX13_digit_25 ?_
    refine lv_topi (fun y9 ey10 => ?_)
    obtain ⟨k11, hk12, b13, b14⟩ := hq_sub (y6) (48)
    rw [← ey10] at hk12 b13 b14
    have hk12 : (y9).toInt = (y6).toInt - (48 : Int) + k11 * 4294967296 := hk12
    refine lv_istore_n (lv' := [(2, .int (y9)), (0, .ref (mo)), (1, .int (k))]) hx hb dX13_digit_26 rfl hl (by decide) rfl (fun ls hl => ?_)
    refine lv_iload_n hx hb dX13_digit_27 rfl (lv_at hl 0 rfl) ?_
    refine lv_iload_n hx hb dX13_digit_28 rfl (lv_at hl 2 rfl) ?_
    refine lv_icmp_le (tgt := 38) hx hb dX13_digit_29 (by decide) (fun c15 => ?_) (fun c15 => ?_)
    · have c15 : (y9).toInt ≤ (k).toInt := hq_lei.mp c15
      refine lv_aload_n hx hb dX13_digit_38 rfl (lv_at hl 1 rfl) ?_
      refine hp_callv (hp_runV (As := []) (rest := []) hx hb hml hown hts (t_X13_scan l D cs B G  V n hP.1 q hR (mo) h_mo ho_mo  (by omega) (by omega) (by omega) (by omega) (by omega) (by omega) (by omega) (by omega) (hm_SC.s0 (by assumption)) (hm_SC.s1 (by assumption) (by first | omega | (have h8 := hm_Is.hd (by assumption) (by omega); omega)))) hZ ho_mo cv_X13_111 rfl rfl ⟨Nat.le_of_ble_eq_true rfl, Nat.le_of_ble_eq_true rfl⟩ rfl hl.1 rfl (Nat.le_of_ble_eq_true rfl) dX13_digit_39 ⟨(Nat.le_of_ble_eq_true rfl), (Nat.le_of_ble_eq_true rfl)⟩) hZ (fun V16 n17 _ _ hw18 hZ => ?_)
      obtain ⟨rfl, hq20, ⟨z22, z23, z24, ho25, hi26⟩⟩ := hw18
      have hP := hP.trans hq20 (by intro g h; simp_all)
      have b27 := hq_rng z22
      have b28 := hq_rng z23
      have b29 := hq_rng z24
      refine lv_iload_n hx hb dX13_digit_42 rfl (lv_at hl 0 rfl) ?_
      exact hq_iret hx hb hr hlocks hZ ⟨_, rfl, rfl, hP, ⟨z22, z23, z24, m_ft, m_fa, ho25, by assumption⟩, trivial⟩ dX13_digit_43
    · have c15 : ¬ (y9).toInt ≤ (k).toInt := fun h9 => c15 (hq_lei.mpr h9)
      refine lv_aload_n hx hb dX13_digit_32 rfl (lv_at hl 1 rfl) ?_
      refine lv_iconst (v := 3) hx hb dX13_digit_33 (by decide) ?_
      have hl39 : (3 : Int32).toInt = 3 := by decide
      refine hp_callq (hp_runV (As := [.int (3)]) (rest := []) hx hb hml hown hts (t_X13_wrong l D cs B G  V n hP.1 q hR (mo) h_mo (3) ho_mo  (by omega) (by omega) (by omega) (by omega) (by omega) (by omega) (by omega) (by omega) ) hZ ho_mo cv_X13_107 rfl rfl ⟨Nat.le_of_ble_eq_true rfl, Nat.le_of_ble_eq_true rfl⟩ rfl hl.1 rfl (Nat.le_of_ble_eq_true rfl) dX13_digit_34 ⟨(Nat.le_of_ble_eq_true rfl), (Nat.le_of_ble_eq_true rfl)⟩) hZ (fun r33 V30 n31 _ _ hw32 hZ => ?_)
      obtain ⟨rfl, hq34, ⟨z36, z37, ho38⟩, hr35⟩ := hw32
      have hP := hP.trans hq34 (by intro g h; simp_all)
      have b40 := hq_rng z36
      have b41 := hq_rng z37
      subst hr35
      refine W.eq (g2 := F0 m 37 ls [.ref (q + 19)]) rfl ?_
      exact hq_athrow hx hb hnx hlocks hZ ⟨rfl, rfl, hP, ⟨m_fr, m_bh, m_hd, z36, z37, ho38, by assumption⟩⟩ dX13_digit_37
  · have c1 : ¬ (m_hd).toInt = (2 : Int) := fun h9 => c1 (hq_eqi.mpr h9)
    refine lv_aload_n hx hb dX13_digit_8 rfl (lv_at hl 0 rfl) ?_
    refine lv_iconst (v := 1) hx hb dX13_digit_9 (by decide) ?_
    have hl51 : (1 : Int32).toInt = 1 := by decide
    refine hp_callq (hp_runV (As := [.int (1)]) (rest := []) hx hb hml hown hts (t_X13_wrong l D cs B G  V n hP.1 q hR (mo) h_mo (1) ho_mo  (by omega) (by omega) (by omega) (by omega) (by omega) (by omega) (by omega) (by omega) ) hZ ho_mo cv_X13_107 rfl rfl ⟨Nat.le_of_ble_eq_true rfl, Nat.le_of_ble_eq_true rfl⟩ rfl hl.1 rfl (Nat.le_of_ble_eq_true rfl) dX13_digit_10 ⟨(Nat.le_of_ble_eq_true rfl), (Nat.le_of_ble_eq_true rfl)⟩) hZ (fun r45 V42 n43 _ _ hw44 hZ => ?_)
    obtain ⟨rfl, hq46, ⟨z48, z49, ho50⟩, hr47⟩ := hw44
    have hP := hP.trans hq46 (by intro g h; simp_all)
    have b52 := hq_rng z48
    have b53 := hq_rng z49
    subst hr47
    refine W.eq (g2 := F0 m 13 ls [.ref (q + 19)]) rfl ?_
    exact hq_athrow hx hb hnx hlocks hZ ⟨rfl, rfl, hP, ⟨m_fr, m_bh, m_hd, z48, z49, ho50, by assumption⟩⟩ dX13_digit_13

set_option maxHeartbeats 4000000 in
set_option maxRecDepth 100000 in
theorem t_X13_nameIn (l : Launch) (D : va_G) (cs : Nat → ClassId) (B : Nat) (G : hq_G) (V : hp_V) (n : Nat) (hI : hq_I cs G V) (q : Nat) (hR : hq_RT G q) (Nn Ns : Nat) (mo : Nat) (h_mo : G mo = some (24, 0, 0, 0)) (nm : Nat) (h_nm : G nm = some (20, Nn, 41, 0)) (szs : Nat) (h_szs : G szs = some (21, Ns, 2, 41)) (bs : Int32) (mn : Int32) {m_tp m_sz m_fr m_bh m_hd m_ft m_fa m_le m_fo m_as m_fd m_bc m_bg m_bs m_be m_b0 m_b1 m_cm m_hc : Int32} (ho_mo : V mo = some (.inr (13, hm_o q (m_tp) (m_sz) (m_fr) (m_bh) (m_hd) (m_ft) (m_fa) (m_le) (m_fo) (m_as) (m_fd) (m_bc) (m_bg) (m_bs) (m_be) (m_b0) (m_b1) (m_cm) (m_hc)))) (hi_mo0 : 0 ≤ m_tp.toInt ∧ m_tp.toInt ≤ 4000) (hi_mo1 : 0 ≤ m_sz.toInt ∧ m_sz.toInt ≤ 4000) (hi_mo2 : 0 ≤ m_le.toInt ∧ m_le.toInt ≤ 276) (hi_mo3 : 0 ≤ m_fo.toInt ∧ m_fo.toInt ≤ 4) (hi_mo4 : 0 ≤ m_as.toInt ∧ m_as.toInt ≤ 4000) (hi_mo5 : 0 ≤ m_fd.toInt ∧ m_fd.toInt ≤ 900) (hi_mo6 : 0 ≤ m_cm.toInt ∧ m_cm.toInt ≤ 2) (hi_mo7 : 0 ≤ m_hc.toInt ∧ m_hc.toInt ≤ 1) (hi_mo8 : hm_SC m_sz m_fr m_bh m_hd) (hh : m_hd.toInt = 1) (hb0 : 0 ≤ bs.toInt) (hm0 : mn.toInt ≤ 1000) (hm : bs.toInt + mn.toInt ≤ Ns) (hn : 12 * Ns ≤ Nn) (hN : Ns ≤ 1000) : hp_M l yX13_nameIn cX13_nameIn 8 (some .int) ({ frames := 1, cells := 0, slots := 0, locals := 21 }) D cs B V n [.ref (mo), .ref (nm), .ref (szs), .int (bs), .int (mn)] (hp_QI D cs B (fun r V' n' => n = n' ∧ hq_P cs G (fun _ => false) V V' ∧ (V' mo = some (.inr (13, hm_o q (m_tp) (m_sz) (m_fr) (m_bh) (m_hd) (m_ft) (m_fa) (m_le) (m_fo) (m_as) (m_fd) (m_bc) (m_bg) (m_bs) (m_be) (m_b0) (m_b1) (m_cm) (m_hc)))) ∧ (-1 ≤ r.toInt ∧ (r.toInt < mn.toInt ∨ r.toInt = -1)))) 0 0 := by
  refine hp_walk (R0 := RX13) (by decide) rfl ?_ (Nat.le_of_ble_eq_true rfl)
  intro p e s m below meth c ls hx hb hr hts hown hlocks hin hml hZ hl
  have hP : hq_P cs G (fun _ => false) V V := hq_P.rf hI
  have hl : lv_has ls 8 [(0, .ref (mo)), (1, .ref (nm)), (2, .ref (szs)), (3, .int (bs)), (4, .int (mn))] := hl
  have hb_bs := hq_rng bs
  have hb_mn := hq_rng mn
  have hb_m_tp := hq_rng m_tp
  have hb_m_sz := hq_rng m_sz
  have hb_m_fr := hq_rng m_fr
  have hb_m_bh := hq_rng m_bh
  have hb_m_hd := hq_rng m_hd
  have hb_m_ft := hq_rng m_ft
  have hb_m_fa := hq_rng m_fa
  have hb_m_le := hq_rng m_le
  have hb_m_fo := hq_rng m_fo
  have hb_m_as := hq_rng m_as
  have hb_m_fd := hq_rng m_fd
  have hb_m_bc := hq_rng m_bc
  have hb_m_bg := hq_rng m_bg
  have hb_m_bs := hq_rng m_bs
  have hb_m_be := hq_rng m_be
  have hb_m_b0 := hq_rng m_b0
  have hb_m_b1 := hq_rng m_b1
  have hb_m_cm := hq_rng m_cm
  have hb_m_hc := hq_rng m_hc
  have hscu := hm_SC.out (by assumption)
  obtain ⟨hN3, g2, eV1, hf4⟩ := hq_o21 hP.1 h_szs
  refine lv_iconst (v := 0) hx hb dX13_nameIn_0 (by decide) ?_
  refine lv_istore (lv' := [(5, .int (0)), (0, .ref (mo)), (1, .ref (nm)), (2, .ref (szs)), (3, .int (bs)), (4, .int (mn))]) hx hb dX13_nameIn_1 hl (by decide) rfl (fun ls hl => ?_)
  have hl5 : (0 : Int32).toInt = 0 := by decide
  suffices lp3 : ∀ (k9 : Nat) (V9 : hp_V) (H9 : Heap) (locs9 : List Loc) (ls : Array Slot) (k : Int32), (2000 - k.toInt).toNat = k9 → hp_Z D cs B s V9 H9 n locs9 → hq_P cs G (fun _ => false) V V9 → 0 ≤ k.toInt → k.toInt ≤ 1000 → lv_has ls 8 [(5, .int (k)), (0, .ref (mo)), (1, .ref (nm)), (2, .ref (szs)), (3, .int (bs)), (4, .int (mn))] → W p l e ({ frames := 1, cells := 0, slots := 0, locals := 21 }) s m ([.ref (mo), .ref (nm), .ref (szs), .int (bs), .int (mn)] : List Value).toArray below meth c H9 locs9 0 0 (MQ below (hp_QI D cs B (fun r V' n' => n = n' ∧ hq_P cs G (fun _ => false) V V' ∧ (V' mo = some (.inr (13, hm_o q (m_tp) (m_sz) (m_fr) (m_bh) (m_hd) (m_ft) (m_fa) (m_le) (m_fo) (m_as) (m_fd) (m_bc) (m_bg) (m_bs) (m_be) (m_b0) (m_b1) (m_cm) (m_hc)))) ∧ (-1 ≤ r.toInt ∧ (r.toInt < mn.toInt ∨ r.toInt = -1)))) ([.ref (mo), .ref (nm), .ref (szs), .int (bs), .int (mn)] : List Value).toArray s 0 0 (hp_F B)) (F0 m 3 ls []) from lp3 _ _ _ _ ls (0) rfl hZ hP (by omega) (by omega) (lv_sub hl [0, 1, 2, 3, 4, 5] rfl)
  intro k9
  induction k9 using Nat.strongRecOn with
  | _ k9 ih3 =>
    intro V9 H9 locs9 ls k  hk3 hZ hP  hv6 hv7 hl
    have hb_k := hq_rng k
    have hP_3 := hP
    refine lv_iload hx hb dX13_nameIn_3 (lv_at hl 0 rfl) ?_
    refine lv_iload hx hb dX13_nameIn_5 (lv_at hl 5 rfl) ?_
    refine lv_icmp_ge (tgt := 108) hx hb dX13_nameIn_7 (by decide) (fun c8 => ?_) (fun c8 => ?_)
    · have c8 : (mn).toInt ≤ (k).toInt := hq_lei.mp c8
      refine lv_iconst (v := -1) hx hb dX13_nameIn_108 (by decide) ?_
      have fx9 : V9 (mo) = some (.inr (13, hm_o q (m_tp) (m_sz) (m_fr) (m_bh) (m_hd) (m_ft) (m_fa) (m_le) (m_fo) (m_as) (m_fd) (m_bc) (m_bg) (m_bs) (m_be) (m_b0) (m_b1) (m_cm) (m_hc))) := (hP_3.2 (mo) _ h_mo rfl).trans (ho_mo)
      exact hp_iret hx hb hr hlocks hZ ⟨rfl, hP, fx9, ⟨by decide, Or.inr (by decide)⟩⟩ dX13_nameIn_109
    · have c8 : ¬ (mn).toInt ≤ (k).toInt := fun h9 => c8 (hq_lei.mpr h9)
      refine lv_aload_n hx hb dX13_nameIn_10 rfl (lv_at hl 3 rfl) ?_
      refine lv_iload_n hx hb dX13_nameIn_11 rfl (lv_at hl 4 rfl) ?_
      refine lv_iload hx hb dX13_nameIn_12 (lv_at hl 0 rfl) ?_
      refine lv_iadd hx hb dX13_nameIn_14 ?_
      refine lv_topi (fun y10 ey11 => ?_)
      obtain ⟨k12, hk13, b14, b15⟩ := hq_add (bs) (k)
      rw [← ey11] at hk13 b14 b15
      have hk13 : (y10).toInt = (bs).toInt + (k).toInt + k12 * 4294967296 := hk13
      obtain rfl : k12 = 0 := by omega
      have fx16 : V9 (szs) = some (.inl (cs 1, Ns, .inl (g2))) := (hP_3.2 (szs) _ h_szs rfl).trans (eV1)
      refine hp_iald hx hb hZ fx16 (hq_in (by omega) (by omega)) dX13_nameIn_15 ?_
      refine lv_topi (fun y17 ey18 => ?_)
      have b19 : hq_ir (hq_lo 2) (hq_hi 2) y17 := by rw [ey18]; exact hf4 _ (hq_ix (by omega) (by omega))
      have b19 : 0 ≤ (y17).toInt ∧ (y17).toInt ≤ 12 := b19
      refine lv_aload_n hx hb dX13_nameIn_16 rfl (lv_at hl 1 rfl) ?_
      have fx20 : V9 (mo) = some (.inr (13, hm_o q (m_tp) (m_sz) (m_fr) (m_bh) (m_hd) (m_ft) (m_fa) (m_le) (m_fo) (m_as) (m_fd) (m_bc) (m_bg) (m_bs) (m_be) (m_b0) (m_b1) (m_cm) (m_hc))) := (hP_3.2 (mo) _ h_mo rfl).trans (ho_mo)
      refine hp_get (v := .int (m_bh)) hx hb hts hown hZ fx20 fl_X13_76 rfl dX13_nameIn_17 ?_
      refine lv_aload_n hx hb dX13_nameIn_20 rfl (lv_at hl 1 rfl) ?_
      refine hp_get (v := .int (m_fr)) hx hb hts hown hZ fx20 fl_X13_60 rfl dX13_nameIn_21 ?_
      refine lv_isub hx hb dX13_nameIn_24 ?_
      refine lv_topi (fun y21 ey22 => ?_)
      obtain ⟨k23, hk24, b25, b26⟩ := hq_sub (m_bh) (m_fr)
      rw [← ey22] at hk24 b25 b26
      have hk24 : (y21).toInt = (m_bh).toInt - (m_fr).toInt + k23 * 4294967296 := hk24
      obtain rfl : k23 = 0 := by omega
      refine lv_icmp_ne (tgt := 32) hx hb dX13_nameIn_25 (by decide) (fun c27 => ?_) (fun c27 => ?_)
      · have c27 : ¬ (y17).toInt = (y21).toInt := fun h9 => c27 (hq_eqi.mpr h9)
        refine lv_iconst (v := 0) hx hb dX13_nameIn_32 (by decide) ?_
        refine lv_istore (lv' := [(6, .int (0)), (5, .int (k)), (0, .ref (mo)), (1, .ref (nm)), (2, .ref (szs)), (3, .int (bs)), (4, .int (mn))]) hx hb dX13_nameIn_33 hl (by decide) rfl (fun ls hl => ?_)
        refine lv_iconst (v := 0) hx hb dX13_nameIn_35 (by decide) ?_
        refine lv_istore (lv' := [(7, .int (0)), (6, .int (0)), (5, .int (k)), (0, .ref (mo)), (1, .ref (nm)), (2, .ref (szs)), (3, .int (bs)), (4, .int (mn))]) hx hb dX13_nameIn_36 hl (by decide) rfl (fun ls hl => ?_)
        have hl28 : (0 : Int32).toInt = 0 := by decide
        have hl29 : (0 : Int32).toInt = 0 := by decide
        suffices lp38 : ∀ (k9 : Nat) (V9 : hp_V) (H9 : Heap) (locs9 : List Loc) (ls : Array Slot) (sa : Int32) (i : Int32), (200 - i.toInt).toNat = k9 → hp_Z D cs B s V9 H9 n locs9 → hq_P cs G (fun _ => false) V V9 → 0 ≤ i.toInt → i.toInt ≤ 100 → sa.toInt = 0 ∨ (sa.toInt = 1 ∧ (y17).toInt = m_bh.toInt - m_fr.toInt) → lv_has ls 8 [(7, .int (i)), (6, .int (sa)), (5, .int (k)), (0, .ref (mo)), (1, .ref (nm)), (2, .ref (szs)), (3, .int (bs)), (4, .int (mn))] → W p l e ({ frames := 1, cells := 0, slots := 0, locals := 21 }) s m ([.ref (mo), .ref (nm), .ref (szs), .int (bs), .int (mn)] : List Value).toArray below meth c H9 locs9 0 0 (MQ below (hp_QI D cs B (fun r V' n' => n = n' ∧ hq_P cs G (fun _ => false) V V' ∧ (V' mo = some (.inr (13, hm_o q (m_tp) (m_sz) (m_fr) (m_bh) (m_hd) (m_ft) (m_fa) (m_le) (m_fo) (m_as) (m_fd) (m_bc) (m_bg) (m_bs) (m_be) (m_b0) (m_b1) (m_cm) (m_hc)))) ∧ (-1 ≤ r.toInt ∧ (r.toInt < mn.toInt ∨ r.toInt = -1)))) ([.ref (mo), .ref (nm), .ref (szs), .int (bs), .int (mn)] : List Value).toArray s 0 0 (hp_F B)) (F0 m 38 ls []) from lp38 _ _ _ _ ls (0) (0) rfl hZ hP (by omega) (by omega) (by omega) (lv_sub hl [0, 1, 2, 3, 4, 5, 6, 7] rfl)
        intro k9
        induction k9 using Nat.strongRecOn with
        | _ k9 ih38 =>
          intro V9 H9 locs9 ls sa i  hk38 hZ hP  hv30 hv31 hv32 hl
          have hb_sa := hq_rng sa
          have hb_i := hq_rng i
          have hP_38 := hP
          refine lv_iload hx hb dX13_nameIn_38 (lv_at hl 0 rfl) ?_
          refine lv_aload_n hx hb dX13_nameIn_40 rfl (lv_at hl 5 rfl) ?_
          refine lv_iload_n hx hb dX13_nameIn_41 rfl (lv_at hl 6 rfl) ?_
          refine lv_iload hx hb dX13_nameIn_42 (lv_at hl 2 rfl) ?_
          refine lv_iadd hx hb dX13_nameIn_44 ?_
          refine lv_topi (fun y33 ey34 => ?_)
          obtain ⟨k35, hk36, b37, b38⟩ := hq_add (bs) (k)
          rw [← ey34] at hk36 b37 b38
          have hk36 : (y33).toInt = (bs).toInt + (k).toInt + k35 * 4294967296 := hk36
          obtain rfl : k35 = 0 := by omega
          have fx39 : V9 (szs) = some (.inl (cs 1, Ns, .inl (g2))) := (hP_38.2 (szs) _ h_szs rfl).trans (eV1)
          refine hp_iald hx hb hZ fx39 (hq_in (by omega) (by omega)) dX13_nameIn_45 ?_
          refine lv_topi (fun y40 ey41 => ?_)
          have b42 : hq_ir (hq_lo 2) (hq_hi 2) y40 := by rw [ey41]; exact hf4 _ (hq_ix (by omega) (by omega))
          have b42 : 0 ≤ (y40).toInt ∧ (y40).toInt ≤ 12 := b42
          have hi9 : y33 = y10 := Int32.toInt_inj.mp (by omega)
          have b43 : (y40).toInt = (y17).toInt := by rw [ey41, ey18, hi9]
          refine lv_icmp_ge (tgt := 94) hx hb dX13_nameIn_46 (by decide) (fun c44 => ?_) (fun c44 => ?_)
          · have c44 : (y40).toInt ≤ (i).toInt := hq_lei.mp c44
            refine lv_iload hx hb dX13_nameIn_94 (lv_at hl 1 rfl) ?_
            refine lv_if_eq (tgt := 102) hx hb dX13_nameIn_96 (by decide) (fun c45 => ?_) (fun c45 => ?_)
            · have c45 : (sa).toInt = (0 : Int) := hq_eqi.mp c45
              obtain ⟨y46, ey47⟩ : ∃ y : Int32, y = k + (1) := ⟨_, rfl⟩
              obtain ⟨k48, hk49, b50, b51⟩ := hq_add (k) (1)
              rw [← ey47] at hk49 b50 b51
              have hk49 : (y46).toInt = (k).toInt + (1) + k48 * 4294967296 := hk49
              refine lv_iinc (v := y46) (lv' := [(5, .int (y46)), (7, .int (i)), (6, .int (sa)), (0, .ref (mo)), (1, .ref (nm)), (2, .ref (szs)), (3, .int (bs)), (4, .int (mn))]) hx hb dX13_nameIn_102 hl (k := 2) rfl (by rw [ey47]; rfl) (by decide) rfl (fun ls hl => ?_)
              refine lv_goto (tgt := 3) hx hb dX13_nameIn_105 (by decide) ?_
              exact ih3 _ (by omega) _ _ _ ls (y46) rfl hZ hP (by omega) (by omega) (lv_sub hl [0, 3, 4, 5, 6, 7] rfl)
            · have c45 : ¬ (sa).toInt = (0 : Int) := fun h9 => c45 (hq_eqi.mpr h9)
              refine lv_iload hx hb dX13_nameIn_99 (lv_at hl 2 rfl) ?_
              have fx52 : V9 (mo) = some (.inr (13, hm_o q (m_tp) (m_sz) (m_fr) (m_bh) (m_hd) (m_ft) (m_fa) (m_le) (m_fo) (m_as) (m_fd) (m_bc) (m_bg) (m_bs) (m_be) (m_b0) (m_b1) (m_cm) (m_hc))) := (hP_38.2 (mo) _ h_mo rfl).trans (ho_mo)
              exact hp_iret hx hb hr hlocks hZ ⟨rfl, hP, fx52, ⟨by omega, Or.inl (by omega)⟩⟩ dX13_nameIn_101
          · have c44 : ¬ (y40).toInt ≤ (i).toInt := fun h9 => c44 (hq_lei.mpr h9)
            refine lv_iload hx hb dX13_nameIn_49 (lv_at hl 1 rfl) ?_
            refine lv_if_eq (tgt := 94) hx hb dX13_nameIn_51 (by decide) (fun c53 => ?_) (fun c53 => ?_)
            · have c53 : (sa).toInt = (0 : Int) := hq_eqi.mp c53
              refine lv_iload hx hb dX13_nameIn_94 (lv_at hl 1 rfl) ?_
              refine lv_if_eq (tgt := 102) hx hb dX13_nameIn_96 (by decide) (fun c54 => ?_) (fun c54 => ?_)
              · have c54 : (sa).toInt = (0 : Int) := hq_eqi.mp c54
                obtain ⟨y55, ey56⟩ : ∃ y : Int32, y = k + (1) := ⟨_, rfl⟩
                obtain ⟨k57, hk58, b59, b60⟩ := hq_add (k) (1)
                rw [← ey56] at hk58 b59 b60
                have hk58 : (y55).toInt = (k).toInt + (1) + k57 * 4294967296 := hk58
                refine lv_iinc (v := y55) (lv' := [(5, .int (y55)), (7, .int (i)), (6, .int (sa)), (0, .ref (mo)), (1, .ref (nm)), (2, .ref (szs)), (3, .int (bs)), (4, .int (mn))]) hx hb dX13_nameIn_102 hl (k := 2) rfl (by rw [ey56]; rfl) (by decide) rfl (fun ls hl => ?_)
                refine lv_goto (tgt := 3) hx hb dX13_nameIn_105 (by decide) ?_
                exact ih3 _ (by omega) _ _ _ ls (y55) rfl hZ hP (by omega) (by omega) (lv_sub hl [0, 3, 4, 5, 6, 7] rfl)
              · have c54 : ¬ (sa).toInt = (0 : Int) := fun h9 => c54 (hq_eqi.mpr h9)
                refine lv_iload hx hb dX13_nameIn_99 (lv_at hl 2 rfl) ?_
                have fx61 : V9 (mo) = some (.inr (13, hm_o q (m_tp) (m_sz) (m_fr) (m_bh) (m_hd) (m_ft) (m_fa) (m_le) (m_fo) (m_as) (m_fd) (m_bc) (m_bg) (m_bs) (m_be) (m_b0) (m_b1) (m_cm) (m_hc))) := (hP_38.2 (mo) _ h_mo rfl).trans (ho_mo)
                exact hp_iret hx hb hr hlocks hZ ⟨rfl, hP, fx61, ⟨by omega, Or.inl (by omega)⟩⟩ dX13_nameIn_101
            · have c53 : ¬ (sa).toInt = (0 : Int) := fun h9 => c53 (hq_eqi.mpr h9)
              refine lv_aload_n hx hb dX13_nameIn_54 rfl (lv_at hl 4 rfl) ?_
              refine lv_bipush (v := 12) hx hb dX13_nameIn_55 (by decide) ?_
              refine lv_iload_n hx hb dX13_nameIn_57 rfl (lv_at hl 6 rfl) ?_
              refine lv_iload hx hb dX13_nameIn_58 (lv_at hl 2 rfl) ?_
              refine lv_iadd hx hb dX13_nameIn_60 ?_
              refine lv_topi (fun y62 ey63 => ?_)
              obtain ⟨k64, hk65, b66, b67⟩ := hq_add (bs) (k)
              rw [← ey63] at hk65 b66 b67
              have hk65 : (y62).toInt = (bs).toInt + (k).toInt + k64 * 4294967296 := hk65
              obtain rfl : k64 = 0 := by omega
              refine lv_imul hx hb dX13_nameIn_61 ?_
              refine lv_topi (fun y68 ey69 => ?_)
              obtain ⟨k70, hk71, b72, b73⟩ := hq_mul (12) (y62)
              rw [← ey69] at hk71 b72 b73
              have hk71 : (y68).toInt = (12 : Int) * (y62).toInt + k70 * 4294967296 := hk71
              obtain rfl : k70 = 0 := by omega
              refine lv_iload hx hb dX13_nameIn_62 (lv_at hl 0 rfl) ?_
              refine lv_iadd hx hb dX13_nameIn_64 ?_
              refine lv_topi (fun y74 ey75 => ?_)
              obtain ⟨k76, hk77, b78, b79⟩ := hq_add (y68) (i)
              rw [← ey75] at hk77 b78 b79
              have hk77 : (y74).toInt = (y68).toInt + (i).toInt + k76 * 4294967296 := hk77
              obtain rfl : k76 = 0 := by omega
              obtain ⟨hN82, g81, eV80⟩ := hq_o20 hP.1 h_nm
              refine hp_bald hx hb hZ eV80 (hq_in (by omega) (by omega)) dX13_nameIn_65 ?_
              refine lv_topi (fun y84 ey85 => ?_)
              have b86 := hq_rng y84
              refine lv_aload_n hx hb dX13_nameIn_66 rfl (lv_at hl 3 rfl) ?_
              have fx87 : V9 (mo) = some (.inr (13, hm_o q (m_tp) (m_sz) (m_fr) (m_bh) (m_hd) (m_ft) (m_fa) (m_le) (m_fo) (m_as) (m_fd) (m_bc) (m_bg) (m_bs) (m_be) (m_b0) (m_b1) (m_cm) (m_hc))) := (hP_38.2 (mo) _ h_mo rfl).trans (ho_mo)
              refine hp_get (v := .ref (q + 20)) hx hb hts hown hZ fx87 fl_X13_73 rfl dX13_nameIn_67 ?_
              refine lv_aload_n hx hb dX13_nameIn_70 rfl (lv_at hl 3 rfl) ?_
              refine hp_get (v := .int (m_fr)) hx hb hts hown hZ fx87 fl_X13_60 rfl dX13_nameIn_71 ?_
              refine lv_iload hx hb dX13_nameIn_74 (lv_at hl 0 rfl) ?_
              refine lv_iadd hx hb dX13_nameIn_76 ?_
              refine lv_topi (fun y88 ey89 => ?_)
              obtain ⟨k90, hk91, b92, b93⟩ := hq_add (m_fr) (i)
              rw [← ey89] at hk91 b92 b93
              have hk91 : (y88).toInt = (m_fr).toInt + (i).toInt + k90 * 4294967296 := hk91
              obtain rfl : k90 = 0 := by omega
              obtain ⟨hN96, g95, eV94⟩ := hq_o20 hP.1 (hr_20 hR)
              refine hp_bald hx hb hZ eV94 (hq_in (by omega) (by omega)) dX13_nameIn_77 ?_
              refine lv_topi (fun y98 ey99 => ?_)
              have b100 := hq_rng y98
              refine lv_icmp_ne (tgt := 85) hx hb dX13_nameIn_78 (by decide) (fun c101 => ?_) (fun c101 => ?_)
              · have c101 : ¬ (y84).toInt = (y98).toInt := fun h9 => c101 (hq_eqi.mpr h9)
                refine lv_iconst (v := 0) hx hb dX13_nameIn_85 (by decide) ?_
                refine lv_istore (lv' := [(6, .int (0)), (7, .int (i)), (5, .int (k)), (0, .ref (mo)), (1, .ref (nm)), (2, .ref (szs)), (3, .int (bs)), (4, .int (mn))]) hx hb dX13_nameIn_86 hl (by decide) rfl (fun ls hl => ?_)
                obtain ⟨y102, ey103⟩ : ∃ y : Int32, y = i + (1) := ⟨_, rfl⟩
                obtain ⟨k104, hk105, b106, b107⟩ := hq_add (i) (1)
                rw [← ey103] at hk105 b106 b107
                have hk105 : (y102).toInt = (i).toInt + (1) + k104 * 4294967296 := hk105
                refine lv_iinc (v := y102) (lv' := [(7, .int (y102)), (6, .int (0)), (5, .int (k)), (0, .ref (mo)), (1, .ref (nm)), (2, .ref (szs)), (3, .int (bs)), (4, .int (mn))]) hx hb dX13_nameIn_88 hl (k := 1) rfl (by rw [ey103]; rfl) (by decide) rfl (fun ls hl => ?_)
                refine lv_goto (tgt := 38) hx hb dX13_nameIn_91 (by decide) ?_
                exact ih38 _ (by omega) _ _ _ ls (0) (y102) rfl hZ hP (by omega) (by omega) (by omega) (lv_sub hl [0, 1, 2, 3, 4, 5, 6, 7] rfl)
              · have c101 : (y84).toInt = (y98).toInt := hq_eqi.mp c101
                refine lv_iconst (v := 1) hx hb dX13_nameIn_81 (by decide) ?_
                refine lv_goto (tgt := 86) hx hb dX13_nameIn_82 (by decide) ?_
                refine lv_istore (lv' := [(6, .int (1)), (7, .int (i)), (5, .int (k)), (0, .ref (mo)), (1, .ref (nm)), (2, .ref (szs)), (3, .int (bs)), (4, .int (mn))]) hx hb dX13_nameIn_86 hl (by decide) rfl (fun ls hl => ?_)
                obtain ⟨y108, ey109⟩ : ∃ y : Int32, y = i + (1) := ⟨_, rfl⟩
                obtain ⟨k110, hk111, b112, b113⟩ := hq_add (i) (1)
                rw [← ey109] at hk111 b112 b113
                have hk111 : (y108).toInt = (i).toInt + (1) + k110 * 4294967296 := hk111
                refine lv_iinc (v := y108) (lv' := [(7, .int (y108)), (6, .int (1)), (5, .int (k)), (0, .ref (mo)), (1, .ref (nm)), (2, .ref (szs)), (3, .int (bs)), (4, .int (mn))]) hx hb dX13_nameIn_88 hl (k := 1) rfl (by rw [ey109]; rfl) (by decide) rfl (fun ls hl => ?_)
                refine lv_goto (tgt := 38) hx hb dX13_nameIn_91 (by decide) ?_
                exact ih38 _ (by omega) _ _ _ ls (1) (y108) rfl hZ hP (by omega) (by omega) (by omega) (lv_sub hl [0, 1, 2, 3, 4, 5, 6, 7] rfl)
      · have c27 : (y17).toInt = (y21).toInt := hq_eqi.mp c27
        refine lv_iconst (v := 1) hx hb dX13_nameIn_28 (by decide) ?_
        refine lv_goto (tgt := 33) hx hb dX13_nameIn_29 (by decide) ?_
        refine lv_istore (lv' := [(6, .int (1)), (5, .int (k)), (0, .ref (mo)), (1, .ref (nm)), (2, .ref (szs)), (3, .int (bs)), (4, .int (mn))]) hx hb dX13_nameIn_33 hl (by decide) rfl (fun ls hl => ?_)
        refine lv_iconst (v := 0) hx hb dX13_nameIn_35 (by decide) ?_
        refine lv_istore (lv' := [(7, .int (0)), (6, .int (1)), (5, .int (k)), (0, .ref (mo)), (1, .ref (nm)), (2, .ref (szs)), (3, .int (bs)), (4, .int (mn))]) hx hb dX13_nameIn_36 hl (by decide) rfl (fun ls hl => ?_)
        have hl114 : (1 : Int32).toInt = 1 := by decide
        have hl115 : (0 : Int32).toInt = 0 := by decide
        suffices lp38 : ∀ (k9 : Nat) (V9 : hp_V) (H9 : Heap) (locs9 : List Loc) (ls : Array Slot) (sa : Int32) (i : Int32), (200 - i.toInt).toNat = k9 → hp_Z D cs B s V9 H9 n locs9 → hq_P cs G (fun _ => false) V V9 → 0 ≤ i.toInt → i.toInt ≤ 100 → sa.toInt = 0 ∨ (sa.toInt = 1 ∧ (y17).toInt = m_bh.toInt - m_fr.toInt) → lv_has ls 8 [(7, .int (i)), (6, .int (sa)), (5, .int (k)), (0, .ref (mo)), (1, .ref (nm)), (2, .ref (szs)), (3, .int (bs)), (4, .int (mn))] → W p l e ({ frames := 1, cells := 0, slots := 0, locals := 21 }) s m ([.ref (mo), .ref (nm), .ref (szs), .int (bs), .int (mn)] : List Value).toArray below meth c H9 locs9 0 0 (MQ below (hp_QI D cs B (fun r V' n' => n = n' ∧ hq_P cs G (fun _ => false) V V' ∧ (V' mo = some (.inr (13, hm_o q (m_tp) (m_sz) (m_fr) (m_bh) (m_hd) (m_ft) (m_fa) (m_le) (m_fo) (m_as) (m_fd) (m_bc) (m_bg) (m_bs) (m_be) (m_b0) (m_b1) (m_cm) (m_hc)))) ∧ (-1 ≤ r.toInt ∧ (r.toInt < mn.toInt ∨ r.toInt = -1)))) ([.ref (mo), .ref (nm), .ref (szs), .int (bs), .int (mn)] : List Value).toArray s 0 0 (hp_F B)) (F0 m 38 ls []) from lp38 _ _ _ _ ls (1) (0) rfl hZ hP (by omega) (by omega) (by omega) (lv_sub hl [0, 1, 2, 3, 4, 5, 6, 7] rfl)
        intro k9
        induction k9 using Nat.strongRecOn with
        | _ k9 ih38 =>
          intro V9 H9 locs9 ls sa i  hk38 hZ hP  hv116 hv117 hv118 hl
          have hb_sa := hq_rng sa
          have hb_i := hq_rng i
          have hP_38 := hP
          refine lv_iload hx hb dX13_nameIn_38 (lv_at hl 0 rfl) ?_
          refine lv_aload_n hx hb dX13_nameIn_40 rfl (lv_at hl 5 rfl) ?_
          refine lv_iload_n hx hb dX13_nameIn_41 rfl (lv_at hl 6 rfl) ?_
          refine lv_iload hx hb dX13_nameIn_42 (lv_at hl 2 rfl) ?_
          refine lv_iadd hx hb dX13_nameIn_44 ?_
          refine lv_topi (fun y119 ey120 => ?_)
          obtain ⟨k121, hk122, b123, b124⟩ := hq_add (bs) (k)
          rw [← ey120] at hk122 b123 b124
          have hk122 : (y119).toInt = (bs).toInt + (k).toInt + k121 * 4294967296 := hk122
          obtain rfl : k121 = 0 := by omega
          have fx125 : V9 (szs) = some (.inl (cs 1, Ns, .inl (g2))) := (hP_38.2 (szs) _ h_szs rfl).trans (eV1)
          refine hp_iald hx hb hZ fx125 (hq_in (by omega) (by omega)) dX13_nameIn_45 ?_
          refine lv_topi (fun y126 ey127 => ?_)
          have b128 : hq_ir (hq_lo 2) (hq_hi 2) y126 := by rw [ey127]; exact hf4 _ (hq_ix (by omega) (by omega))
          have b128 : 0 ≤ (y126).toInt ∧ (y126).toInt ≤ 12 := b128
          have hi9 : y119 = y10 := Int32.toInt_inj.mp (by omega)
          have b129 : (y126).toInt = (y17).toInt := by rw [ey127, ey18, hi9]
          refine lv_icmp_ge (tgt := 94) hx hb dX13_nameIn_46 (by decide) (fun c130 => ?_) (fun c130 => ?_)
          · have c130 : (y126).toInt ≤ (i).toInt := hq_lei.mp c130
            refine lv_iload hx hb dX13_nameIn_94 (lv_at hl 1 rfl) ?_
            refine lv_if_eq (tgt := 102) hx hb dX13_nameIn_96 (by decide) (fun c131 => ?_) (fun c131 => ?_)
            · have c131 : (sa).toInt = (0 : Int) := hq_eqi.mp c131
              obtain ⟨y132, ey133⟩ : ∃ y : Int32, y = k + (1) := ⟨_, rfl⟩
              obtain ⟨k134, hk135, b136, b137⟩ := hq_add (k) (1)
              rw [← ey133] at hk135 b136 b137
              have hk135 : (y132).toInt = (k).toInt + (1) + k134 * 4294967296 := hk135
              refine lv_iinc (v := y132) (lv' := [(5, .int (y132)), (7, .int (i)), (6, .int (sa)), (0, .ref (mo)), (1, .ref (nm)), (2, .ref (szs)), (3, .int (bs)), (4, .int (mn))]) hx hb dX13_nameIn_102 hl (k := 2) rfl (by rw [ey133]; rfl) (by decide) rfl (fun ls hl => ?_)
              refine lv_goto (tgt := 3) hx hb dX13_nameIn_105 (by decide) ?_
              exact ih3 _ (by omega) _ _ _ ls (y132) rfl hZ hP (by omega) (by omega) (lv_sub hl [0, 3, 4, 5, 6, 7] rfl)
            · have c131 : ¬ (sa).toInt = (0 : Int) := fun h9 => c131 (hq_eqi.mpr h9)
              refine lv_iload hx hb dX13_nameIn_99 (lv_at hl 2 rfl) ?_
              have fx138 : V9 (mo) = some (.inr (13, hm_o q (m_tp) (m_sz) (m_fr) (m_bh) (m_hd) (m_ft) (m_fa) (m_le) (m_fo) (m_as) (m_fd) (m_bc) (m_bg) (m_bs) (m_be) (m_b0) (m_b1) (m_cm) (m_hc))) := (hP_38.2 (mo) _ h_mo rfl).trans (ho_mo)
              exact hp_iret hx hb hr hlocks hZ ⟨rfl, hP, fx138, ⟨by omega, Or.inl (by omega)⟩⟩ dX13_nameIn_101
          · have c130 : ¬ (y126).toInt ≤ (i).toInt := fun h9 => c130 (hq_lei.mpr h9)
            refine lv_iload hx hb dX13_nameIn_49 (lv_at hl 1 rfl) ?_
            refine lv_if_eq (tgt := 94) hx hb dX13_nameIn_51 (by decide) (fun c139 => ?_) (fun c139 => ?_)
            · have c139 : (sa).toInt = (0 : Int) := hq_eqi.mp c139
              refine lv_iload hx hb dX13_nameIn_94 (lv_at hl 1 rfl) ?_
              refine lv_if_eq (tgt := 102) hx hb dX13_nameIn_96 (by decide) (fun c140 => ?_) (fun c140 => ?_)
              · have c140 : (sa).toInt = (0 : Int) := hq_eqi.mp c140
                obtain ⟨y141, ey142⟩ : ∃ y : Int32, y = k + (1) := ⟨_, rfl⟩
                obtain ⟨k143, hk144, b145, b146⟩ := hq_add (k) (1)
                rw [← ey142] at hk144 b145 b146
                have hk144 : (y141).toInt = (k).toInt + (1) + k143 * 4294967296 := hk144
                refine lv_iinc (v := y141) (lv' := [(5, .int (y141)), (7, .int (i)), (6, .int (sa)), (0, .ref (mo)), (1, .ref (nm)), (2, .ref (szs)), (3, .int (bs)), (4, .int (mn))]) hx hb dX13_nameIn_102 hl (k := 2) rfl (by rw [ey142]; rfl) (by decide) rfl (fun ls hl => ?_)
                refine lv_goto (tgt := 3) hx hb dX13_nameIn_105 (by decide) ?_
                exact ih3 _ (by omega) _ _ _ ls (y141) rfl hZ hP (by omega) (by omega) (lv_sub hl [0, 3, 4, 5, 6, 7] rfl)
              · have c140 : ¬ (sa).toInt = (0 : Int) := fun h9 => c140 (hq_eqi.mpr h9)
                refine lv_iload hx hb dX13_nameIn_99 (lv_at hl 2 rfl) ?_
                have fx147 : V9 (mo) = some (.inr (13, hm_o q (m_tp) (m_sz) (m_fr) (m_bh) (m_hd) (m_ft) (m_fa) (m_le) (m_fo) (m_as) (m_fd) (m_bc) (m_bg) (m_bs) (m_be) (m_b0) (m_b1) (m_cm) (m_hc))) := (hP_38.2 (mo) _ h_mo rfl).trans (ho_mo)
                exact hp_iret hx hb hr hlocks hZ ⟨rfl, hP, fx147, ⟨by omega, Or.inl (by omega)⟩⟩ dX13_nameIn_101
            · have c139 : ¬ (sa).toInt = (0 : Int) := fun h9 => c139 (hq_eqi.mpr h9)
              refine lv_aload_n hx hb dX13_nameIn_54 rfl (lv_at hl 4 rfl) ?_
              refine lv_bipush (v := 12) hx hb dX13_nameIn_55 (by decide) ?_
              refine lv_iload_n hx hb dX13_nameIn_57 rfl (lv_at hl 6 rfl) ?_
              refine lv_iload hx hb dX13_nameIn_58 (lv_at hl 2 rfl) ?_
              refine lv_iadd hx hb dX13_nameIn_60 ?_
              refine lv_topi (fun y148 ey149 => ?_)
              obtain ⟨k150, hk151, b152, b153⟩ := hq_add (bs) (k)
              rw [← ey149] at hk151 b152 b153
              have hk151 : (y148).toInt = (bs).toInt + (k).toInt + k150 * 4294967296 := hk151
              obtain rfl : k150 = 0 := by omega
              refine lv_imul hx hb dX13_nameIn_61 ?_
              refine lv_topi (fun y154 ey155 => ?_)
              obtain ⟨k156, hk157, b158, b159⟩ := hq_mul (12) (y148)
              rw [← ey155] at hk157 b158 b159
              have hk157 : (y154).toInt = (12 : Int) * (y148).toInt + k156 * 4294967296 := hk157
              obtain rfl : k156 = 0 := by omega
              refine lv_iload hx hb dX13_nameIn_62 (lv_at hl 0 rfl) ?_
              refine lv_iadd hx hb dX13_nameIn_64 ?_
              refine lv_topi (fun y160 ey161 => ?_)
              obtain ⟨k162, hk163, b164, b165⟩ := hq_add (y154) (i)
              rw [← ey161] at hk163 b164 b165
              have hk163 : (y160).toInt = (y154).toInt + (i).toInt + k162 * 4294967296 := hk163
              obtain rfl : k162 = 0 := by omega
              obtain ⟨hN168, g167, eV166⟩ := hq_o20 hP.1 h_nm
              refine hp_bald hx hb hZ eV166 (hq_in (by omega) (by omega)) dX13_nameIn_65 ?_
              refine lv_topi (fun y170 ey171 => ?_)
              have b172 := hq_rng y170
              refine lv_aload_n hx hb dX13_nameIn_66 rfl (lv_at hl 3 rfl) ?_
              have fx173 : V9 (mo) = some (.inr (13, hm_o q (m_tp) (m_sz) (m_fr) (m_bh) (m_hd) (m_ft) (m_fa) (m_le) (m_fo) (m_as) (m_fd) (m_bc) (m_bg) (m_bs) (m_be) (m_b0) (m_b1) (m_cm) (m_hc))) := (hP_38.2 (mo) _ h_mo rfl).trans (ho_mo)
              refine hp_get (v := .ref (q + 20)) hx hb hts hown hZ fx173 fl_X13_73 rfl dX13_nameIn_67 ?_
              refine lv_aload_n hx hb dX13_nameIn_70 rfl (lv_at hl 3 rfl) ?_
              refine hp_get (v := .int (m_fr)) hx hb hts hown hZ fx173 fl_X13_60 rfl dX13_nameIn_71 ?_
              refine lv_iload hx hb dX13_nameIn_74 (lv_at hl 0 rfl) ?_
              refine lv_iadd hx hb dX13_nameIn_76 ?_
              refine lv_topi (fun y174 ey175 => ?_)
              obtain ⟨k176, hk177, b178, b179⟩ := hq_add (m_fr) (i)
              rw [← ey175] at hk177 b178 b179
              have hk177 : (y174).toInt = (m_fr).toInt + (i).toInt + k176 * 4294967296 := hk177
              obtain rfl : k176 = 0 := by omega
              obtain ⟨hN182, g181, eV180⟩ := hq_o20 hP.1 (hr_20 hR)
              refine hp_bald hx hb hZ eV180 (hq_in (by omega) (by omega)) dX13_nameIn_77 ?_
              refine lv_topi (fun y184 ey185 => ?_)
              have b186 := hq_rng y184
              refine lv_icmp_ne (tgt := 85) hx hb dX13_nameIn_78 (by decide) (fun c187 => ?_) (fun c187 => ?_)
              · have c187 : ¬ (y170).toInt = (y184).toInt := fun h9 => c187 (hq_eqi.mpr h9)
                refine lv_iconst (v := 0) hx hb dX13_nameIn_85 (by decide) ?_
                refine lv_istore (lv' := [(6, .int (0)), (7, .int (i)), (5, .int (k)), (0, .ref (mo)), (1, .ref (nm)), (2, .ref (szs)), (3, .int (bs)), (4, .int (mn))]) hx hb dX13_nameIn_86 hl (by decide) rfl (fun ls hl => ?_)
                obtain ⟨y188, ey189⟩ : ∃ y : Int32, y = i + (1) := ⟨_, rfl⟩
                obtain ⟨k190, hk191, b192, b193⟩ := hq_add (i) (1)
                rw [← ey189] at hk191 b192 b193
                have hk191 : (y188).toInt = (i).toInt + (1) + k190 * 4294967296 := hk191
                refine lv_iinc (v := y188) (lv' := [(7, .int (y188)), (6, .int (0)), (5, .int (k)), (0, .ref (mo)), (1, .ref (nm)), (2, .ref (szs)), (3, .int (bs)), (4, .int (mn))]) hx hb dX13_nameIn_88 hl (k := 1) rfl (by rw [ey189]; rfl) (by decide) rfl (fun ls hl => ?_)
                refine lv_goto (tgt := 38) hx hb dX13_nameIn_91 (by decide) ?_
                exact ih38 _ (by omega) _ _ _ ls (0) (y188) rfl hZ hP (by omega) (by omega) (by omega) (lv_sub hl [0, 1, 2, 3, 4, 5, 6, 7] rfl)
              · have c187 : (y170).toInt = (y184).toInt := hq_eqi.mp c187
                refine lv_iconst (v := 1) hx hb dX13_nameIn_81 (by decide) ?_
                refine lv_goto (tgt := 86) hx hb dX13_nameIn_82 (by decide) ?_
                refine lv_istore (lv' := [(6, .int (1)), (7, .int (i)), (5, .int (k)), (0, .ref (mo)), (1, .ref (nm)), (2, .ref (szs)), (3, .int (bs)), (4, .int (mn))]) hx hb dX13_nameIn_86 hl (by decide) rfl (fun ls hl => ?_)
                obtain ⟨y194, ey195⟩ : ∃ y : Int32, y = i + (1) := ⟨_, rfl⟩
                obtain ⟨k196, hk197, b198, b199⟩ := hq_add (i) (1)
                rw [← ey195] at hk197 b198 b199
                have hk197 : (y194).toInt = (i).toInt + (1) + k196 * 4294967296 := hk197
                refine lv_iinc (v := y194) (lv' := [(7, .int (y194)), (6, .int (1)), (5, .int (k)), (0, .ref (mo)), (1, .ref (nm)), (2, .ref (szs)), (3, .int (bs)), (4, .int (mn))]) hx hb dX13_nameIn_88 hl (k := 1) rfl (by rw [ey195]; rfl) (by decide) rfl (fun ls hl => ?_)
                refine lv_goto (tgt := 38) hx hb dX13_nameIn_91 (by decide) ?_
                exact ih38 _ (by omega) _ _ _ ls (1) (y194) rfl hZ hP (by omega) (by omega) (by omega) (lv_sub hl [0, 1, 2, 3, 4, 5, 6, 7] rfl)

set_option maxHeartbeats 4000000 in
set_option maxRecDepth 100000 in
theorem t_X13_classAtHand (l : Launch) (D : va_G) (cs : Nat → ClassId) (B : Nat) (G : hq_G) (V : hp_V) (n : Nat) (hI : hq_I cs G V) (q : Nat) (hR : hq_RT G q) (mo : Nat) (h_mo : G mo = some (24, 0, 0, 0)) {m_tp m_sz m_fr m_bh m_hd m_ft m_fa m_le m_fo m_as m_fd m_bc m_bg m_bs m_be m_b0 m_b1 m_cm m_hc : Int32} (ho_mo : V mo = some (.inr (13, hm_o q (m_tp) (m_sz) (m_fr) (m_bh) (m_hd) (m_ft) (m_fa) (m_le) (m_fo) (m_as) (m_fd) (m_bc) (m_bg) (m_bs) (m_be) (m_b0) (m_b1) (m_cm) (m_hc)))) (hi_mo0 : 0 ≤ m_tp.toInt ∧ m_tp.toInt ≤ 4000) (hi_mo1 : 0 ≤ m_sz.toInt ∧ m_sz.toInt ≤ 4000) (hi_mo2 : 0 ≤ m_le.toInt ∧ m_le.toInt ≤ 276) (hi_mo3 : 0 ≤ m_fo.toInt ∧ m_fo.toInt ≤ 4) (hi_mo4 : 0 ≤ m_as.toInt ∧ m_as.toInt ≤ 4000) (hi_mo5 : 0 ≤ m_fd.toInt ∧ m_fd.toInt ≤ 900) (hi_mo6 : 0 ≤ m_cm.toInt ∧ m_cm.toInt ≤ 2) (hi_mo7 : 0 ≤ m_hc.toInt ∧ m_hc.toInt ≤ 1) (hi_mo8 : hm_SC m_sz m_fr m_bh m_hd) (hh : m_hd.toInt = 1) : hp_M l yX13_classAtHand cX13_classAtHand 1 (some .int) ({ frames := 2, cells := 0, slots := 0, locals := 48 }) D cs B V n [.ref (mo)] (hp_QI D cs B (fun r V' n' => n = n' ∧ hq_P cs G (fun _ => false) V V' ∧ (V' mo = some (.inr (13, hm_o q (m_tp) (m_sz) (m_fr) (m_bh) (m_hd) (m_ft) (m_fa) (m_le) (m_fo) (m_as) (m_fd) (m_bc) (m_bg) (m_bs) (m_be) (m_b0) (m_b1) (m_cm) (m_hc)))) ∧ (-1 ≤ r.toInt ∧ r.toInt < 6))) 0 0 := by
  refine hp_walk (R0 := RX13) (by decide) rfl ?_ (Nat.le_of_ble_eq_true rfl)
  intro p e s m below meth c ls hx hb hr hts hown hlocks hin hml hZ hl
  have hP : hq_P cs G (fun _ => false) V V := hq_P.rf hI
  have hl : lv_has ls 1 [(0, .ref (mo))] := hl
  have hb_m_tp := hq_rng m_tp
  have hb_m_sz := hq_rng m_sz
  have hb_m_fr := hq_rng m_fr
  have hb_m_bh := hq_rng m_bh
  have hb_m_hd := hq_rng m_hd
  have hb_m_ft := hq_rng m_ft
  have hb_m_fa := hq_rng m_fa
  have hb_m_le := hq_rng m_le
  have hb_m_fo := hq_rng m_fo
  have hb_m_as := hq_rng m_as
  have hb_m_fd := hq_rng m_fd
  have hb_m_bc := hq_rng m_bc
  have hb_m_bg := hq_rng m_bg
  have hb_m_bs := hq_rng m_bs
  have hb_m_be := hq_rng m_be
  have hb_m_b0 := hq_rng m_b0
  have hb_m_b1 := hq_rng m_b1
  have hb_m_cm := hq_rng m_cm
  have hb_m_hc := hq_rng m_hc
  refine lv_aload_n hx hb dX13_classAtHand_0 rfl (lv_at hl 0 rfl) ?_
  refine lv_aload_n hx hb dX13_classAtHand_1 rfl (lv_at hl 0 rfl) ?_
  refine hp_get (v := .ref (q + 3)) hx hb hts hown hZ ho_mo fl_X13_150 rfl dX13_classAtHand_2 ?_
  refine lv_aload_n hx hb dX13_classAtHand_5 rfl (lv_at hl 0 rfl) ?_
  refine hp_get (v := .ref (q + 7)) hx hb hts hown hZ ho_mo fl_X13_153 rfl dX13_classAtHand_6 ?_
  refine lv_bipush (v := 6) hx hb dX13_classAtHand_9 (by decide) ?_
  refine lv_aload_n hx hb dX13_classAtHand_11 rfl (lv_at hl 0 rfl) ?_
  refine hp_get (v := .ref (q)) hx hb hts hown hZ ho_mo fl_X13_1 rfl dX13_classAtHand_12 ?_
  refine lv_iconst (v := 1) hx hb dX13_classAtHand_15 (by decide) ?_
  obtain ⟨hN3, g2, eV1, hf4⟩ := hq_o21 hP.1 (hr_0 hR)
  refine hp_iald hx hb hZ eV1 (by unfold vp_in; decide) dX13_classAtHand_16 ?_
  refine lv_topi (fun y5 ey6 => ?_)
  have b7 : hq_ir (hq_lo 11) (hq_hi 11) y5 := by rw [ey6]; exact hf4 _ (by decide)
  have b7 : 0 ≤ (y5).toInt ∧ (y5).toInt ≤ 6 := b7
  have hl15 : (6 : Int32).toInt = 6 := by decide
  refine hp_calli (hp_runV (As := [.ref (q + 3), .ref (q + 7), .int (6), .int (y5)]) (rest := []) hx hb hml hown hts (t_X13_nameIn l D cs B G  V n hP.1 q hR _ _ (mo) h_mo (q + 3) (hr_3 hR) (q + 7) (hr_7 hR) (6) (y5) ho_mo  (by omega) (by omega) (by omega) (by omega) (by omega) (by omega) (by omega) (by omega) (by assumption) (by omega) (by omega) (by omega) (by omega) (by decide) (by decide)) hZ ho_mo cv_X13_156 rfl rfl ⟨Nat.le_of_ble_eq_true rfl, Nat.le_of_ble_eq_true rfl⟩ rfl hl.1 rfl (Nat.le_of_ble_eq_true rfl) dX13_classAtHand_17 ⟨(Nat.le_of_ble_eq_true rfl), (Nat.le_of_ble_eq_true rfl)⟩) hZ (fun r11 V8 n9 _ _ hw10 hZ => ?_)
  obtain ⟨rfl, hq12, ho14, hr13⟩ := hw10
  have hP := hP.trans hq12 (fun _ _ => rfl)
  have b16 := hq_rng r11
  exact hp_iret hx hb hr hlocks hZ ⟨rfl, hP, ho14, (by omega)⟩ dX13_classAtHand_20

set_option maxHeartbeats 4000000 in
set_option maxRecDepth 100000 in
theorem t_X13_verbAtHand (l : Launch) (D : va_G) (cs : Nat → ClassId) (B : Nat) (G : hq_G) (V : hp_V) (n : Nat) (hI : hq_I cs G V) (q : Nat) (hR : hq_RT G q) (mo : Nat) (h_mo : G mo = some (24, 0, 0, 0)) {m_tp m_sz m_fr m_bh m_hd m_ft m_fa m_le m_fo m_as m_fd m_bc m_bg m_bs m_be m_b0 m_b1 m_cm m_hc : Int32} (ho_mo : V mo = some (.inr (13, hm_o q (m_tp) (m_sz) (m_fr) (m_bh) (m_hd) (m_ft) (m_fa) (m_le) (m_fo) (m_as) (m_fd) (m_bc) (m_bg) (m_bs) (m_be) (m_b0) (m_b1) (m_cm) (m_hc)))) (hi_mo0 : 0 ≤ m_tp.toInt ∧ m_tp.toInt ≤ 4000) (hi_mo1 : 0 ≤ m_sz.toInt ∧ m_sz.toInt ≤ 4000) (hi_mo2 : 0 ≤ m_le.toInt ∧ m_le.toInt ≤ 276) (hi_mo3 : 0 ≤ m_fo.toInt ∧ m_fo.toInt ≤ 4) (hi_mo4 : 0 ≤ m_as.toInt ∧ m_as.toInt ≤ 4000) (hi_mo5 : 0 ≤ m_fd.toInt ∧ m_fd.toInt ≤ 900) (hi_mo6 : 0 ≤ m_cm.toInt ∧ m_cm.toInt ≤ 2) (hi_mo7 : 0 ≤ m_hc.toInt ∧ m_hc.toInt ≤ 1) (hi_mo8 : hm_SC m_sz m_fr m_bh m_hd) (hh : m_hd.toInt = 1) : hp_M l yX13_verbAtHand cX13_verbAtHand 1 (some .int) ({ frames := 2, cells := 0, slots := 0, locals := 48 }) D cs B V n [.ref (mo)] (hp_QI D cs B (fun r V' n' => n = n' ∧ hq_P cs G (fun _ => false) V V' ∧ (V' mo = some (.inr (13, hm_o q (m_tp) (m_sz) (m_fr) (m_bh) (m_hd) (m_ft) (m_fa) (m_le) (m_fo) (m_as) (m_fd) (m_bc) (m_bg) (m_bs) (m_be) (m_b0) (m_b1) (m_cm) (m_hc)))) ∧ (-1 ≤ r.toInt ∧ r.toInt < 30))) 0 0 := by
  refine hp_walk (R0 := RX13) (by decide) rfl ?_ (Nat.le_of_ble_eq_true rfl)
  intro p e s m below meth c ls hx hb hr hts hown hlocks hin hml hZ hl
  have hP : hq_P cs G (fun _ => false) V V := hq_P.rf hI
  have hl : lv_has ls 1 [(0, .ref (mo))] := hl
  have hb_m_tp := hq_rng m_tp
  have hb_m_sz := hq_rng m_sz
  have hb_m_fr := hq_rng m_fr
  have hb_m_bh := hq_rng m_bh
  have hb_m_hd := hq_rng m_hd
  have hb_m_ft := hq_rng m_ft
  have hb_m_fa := hq_rng m_fa
  have hb_m_le := hq_rng m_le
  have hb_m_fo := hq_rng m_fo
  have hb_m_as := hq_rng m_as
  have hb_m_fd := hq_rng m_fd
  have hb_m_bc := hq_rng m_bc
  have hb_m_bg := hq_rng m_bg
  have hb_m_bs := hq_rng m_bs
  have hb_m_be := hq_rng m_be
  have hb_m_b0 := hq_rng m_b0
  have hb_m_b1 := hq_rng m_b1
  have hb_m_cm := hq_rng m_cm
  have hb_m_hc := hq_rng m_hc
  refine lv_aload_n hx hb dX13_verbAtHand_0 rfl (lv_at hl 0 rfl) ?_
  refine lv_aload_n hx hb dX13_verbAtHand_1 rfl (lv_at hl 0 rfl) ?_
  refine hp_get (v := .ref (q + 4)) hx hb hts hown hZ ho_mo fl_X13_19 rfl dX13_verbAtHand_2 ?_
  refine lv_aload_n hx hb dX13_verbAtHand_5 rfl (lv_at hl 0 rfl) ?_
  refine hp_get (v := .ref (q + 8)) hx hb hts hown hZ ho_mo fl_X13_13 rfl dX13_verbAtHand_6 ?_
  refine lv_bipush (v := 30) hx hb dX13_verbAtHand_9 (by decide) ?_
  refine lv_aload_n hx hb dX13_verbAtHand_11 rfl (lv_at hl 0 rfl) ?_
  refine hp_get (v := .ref (q + 1)) hx hb hts hown hZ ho_mo fl_X13_7 rfl dX13_verbAtHand_12 ?_
  refine lv_iconst (v := 1) hx hb dX13_verbAtHand_15 (by decide) ?_
  obtain ⟨hN3, g2, eV1, hf4⟩ := hq_o21 hP.1 (hr_1 hR)
  refine hp_iald hx hb hZ eV1 (by unfold vp_in; decide) dX13_verbAtHand_16 ?_
  refine lv_topi (fun y5 ey6 => ?_)
  have b7 : hq_ir (hq_lo 9) (hq_hi 9) y5 := by rw [ey6]; exact hf4 _ (by decide)
  have b7 : 0 ≤ (y5).toInt ∧ (y5).toInt ≤ 30 := b7
  have hl15 : (30 : Int32).toInt = 30 := by decide
  refine hp_calli (hp_runV (As := [.ref (q + 4), .ref (q + 8), .int (30), .int (y5)]) (rest := []) hx hb hml hown hts (t_X13_nameIn l D cs B G  V n hP.1 q hR _ _ (mo) h_mo (q + 4) (hr_4 hR) (q + 8) (hr_8 hR) (30) (y5) ho_mo  (by omega) (by omega) (by omega) (by omega) (by omega) (by omega) (by omega) (by omega) (by assumption) (by omega) (by omega) (by omega) (by omega) (by decide) (by decide)) hZ ho_mo cv_X13_156 rfl rfl ⟨Nat.le_of_ble_eq_true rfl, Nat.le_of_ble_eq_true rfl⟩ rfl hl.1 rfl (Nat.le_of_ble_eq_true rfl) dX13_verbAtHand_17 ⟨(Nat.le_of_ble_eq_true rfl), (Nat.le_of_ble_eq_true rfl)⟩) hZ (fun r11 V8 n9 _ _ hw10 hZ => ?_)
  obtain ⟨rfl, hq12, ho14, hr13⟩ := hw10
  have hP := hP.trans hq12 (fun _ _ => rfl)
  have b16 := hq_rng r11
  exact hp_iret hx hb hr hlocks hZ ⟨rfl, hP, ho14, (by omega)⟩ dX13_verbAtHand_20

set_option maxHeartbeats 4000000 in
set_option maxRecDepth 100000 in
theorem t_X13_takeClass (l : Launch) (D : va_G) (cs : Nat → ClassId) (B : Nat) (G : hq_G) (V : hp_V) (n : Nat) (hI : hq_I cs G V) (q : Nat) (hR : hq_RT G q) (mo : Nat) (h_mo : G mo = some (24, 0, 0, 0)) {m_tp m_sz m_fr m_bh m_hd m_ft m_fa m_le m_fo m_as m_fd m_bc m_bg m_bs m_be m_b0 m_b1 m_cm m_hc : Int32} (ho_mo : V mo = some (.inr (13, hm_o q (m_tp) (m_sz) (m_fr) (m_bh) (m_hd) (m_ft) (m_fa) (m_le) (m_fo) (m_as) (m_fd) (m_bc) (m_bg) (m_bs) (m_be) (m_b0) (m_b1) (m_cm) (m_hc)))) (hi_mo0 : 0 ≤ m_tp.toInt ∧ m_tp.toInt ≤ 4000) (hi_mo1 : 0 ≤ m_sz.toInt ∧ m_sz.toInt ≤ 4000) (hi_mo2 : 0 ≤ m_le.toInt ∧ m_le.toInt ≤ 276) (hi_mo3 : 0 ≤ m_fo.toInt ∧ m_fo.toInt ≤ 4) (hi_mo4 : 0 ≤ m_as.toInt ∧ m_as.toInt ≤ 4000) (hi_mo5 : 0 ≤ m_fd.toInt ∧ m_fd.toInt ≤ 900) (hi_mo6 : 0 ≤ m_cm.toInt ∧ m_cm.toInt ≤ 2) (hi_mo7 : 0 ≤ m_hc.toInt ∧ m_hc.toInt ≤ 1) (hi_mo8 : hm_SC m_sz m_fr m_bh m_hd) : hq_M l yX13_takeClass cX13_takeClass 2 (some .int) ({ frames := 8, cells := 0, slots := 0, locals := 170 }) D cs B V n [.ref (mo)] (hq_QX D cs B (fun v V' n' => ∃ r : Int32, v = some (.int r) ∧ n = n' ∧ hq_P cs G (fun g => g.1 == 1) V V' ∧ (∃ (m_fr1 : Int32) (m_bh1 : Int32) (m_hd1 : Int32) (m_ft1 : Int32) (m_fa1 : Int32), V' mo = some (.inr (13, hm_o q (m_tp) (m_sz) (m_fr1) (m_bh1) (m_hd1) (m_ft1) (m_fa1) (m_le) (m_fo) (m_as) (m_fd) (m_bc) (m_bg) (m_bs) (m_be) (m_b0) (m_b1) (m_cm) (m_hc))) ∧ (hm_SC m_sz m_fr1 m_bh1 m_hd1)) ∧ (0 ≤ r.toInt ∧ r.toInt < 6)) (fun x V' n' => x = q + 19 ∧ n = n' ∧ hq_P cs G (fun g => g.1 == 1) V V' ∧ (∃ (m_fr1 : Int32) (m_bh1 : Int32) (m_hd1 : Int32) (m_ft1 : Int32) (m_fa1 : Int32), V' mo = some (.inr (13, hm_o q (m_tp) (m_sz) (m_fr1) (m_bh1) (m_hd1) (m_ft1) (m_fa1) (m_le) (m_fo) (m_as) (m_fd) (m_bc) (m_bg) (m_bs) (m_be) (m_b0) (m_b1) (m_cm) (m_hc))) ∧ (hm_SC m_sz m_fr1 m_bh1 m_hd1)))) 0 0 := by
  refine hq_walk (R0 := RX13) (by decide) rfl ?_ (Nat.le_of_ble_eq_true rfl)
  intro p e s m below meth c ls hx hb hr hts hown hlocks hin hml hnx hZ hl
  have hP : hq_P cs G (fun g => g.1 == 1) V V := hq_P.rf hI
  have hl : lv_has ls 2 [(0, .ref (mo))] := hl
  have hb_m_tp := hq_rng m_tp
  have hb_m_sz := hq_rng m_sz
  have hb_m_fr := hq_rng m_fr
  have hb_m_bh := hq_rng m_bh
  have hb_m_hd := hq_rng m_hd
  have hb_m_ft := hq_rng m_ft
  have hb_m_fa := hq_rng m_fa
  have hb_m_le := hq_rng m_le
  have hb_m_fo := hq_rng m_fo
  have hb_m_as := hq_rng m_as
  have hb_m_fd := hq_rng m_fd
  have hb_m_bc := hq_rng m_bc
  have hb_m_bg := hq_rng m_bg
  have hb_m_bs := hq_rng m_bs
  have hb_m_be := hq_rng m_be
  have hb_m_b0 := hq_rng m_b0
  have hb_m_b1 := hq_rng m_b1
  have hb_m_cm := hq_rng m_cm
  have hb_m_hc := hq_rng m_hc
  refine lv_aload_n hx hb dX13_takeClass_0 rfl (lv_at hl 0 rfl) ?_
  refine hq_callx (hq_runV (As := []) (rest := []) hx hb hml hown hts (t_X13_needName l D cs B G  V n hP.1 q hR (mo) h_mo ho_mo  (by omega) (by omega) (by omega) (by omega) (by omega) (by omega) (by omega) (by omega) (by assumption) ) hZ ho_mo cv_X13_160 rfl rfl ⟨Nat.le_of_ble_eq_true rfl, Nat.le_of_ble_eq_true rfl⟩ rfl hl.1 rfl (Nat.le_of_ble_eq_true rfl) dX13_takeClass_1 ⟨(Nat.le_of_ble_eq_true rfl), (Nat.le_of_ble_eq_true rfl)⟩) hZ hnx hlocks (by rintro x9 V9 n9 ⟨rfl, rfl, hq9, ⟨z7x, z8x, hox0⟩⟩; have hbxz7 := hq_rng z7x; have hbxz8 := hq_rng z8x; exact ⟨rfl, rfl, hP.trans hq9 (by intro g h; simp_all), ⟨m_fr, m_bh, m_hd, z7x, z8x, hox0, by assumption⟩⟩) (fun v9 V1 n2 _ _ hw3 hZ => ?_)
  obtain ⟨rfl, rfl, hq5, ⟨z7, z8, ho9⟩, hr6⟩ := hw3
  refine W.eq (g2 := F0 m 4 ls []) rfl ?_
  have hP := hP.trans hq5 (by intro g h; simp_all)
  have b10 := hq_rng z7
  have b11 := hq_rng z8
  refine lv_aload_n hx hb dX13_takeClass_4 rfl (lv_at hl 0 rfl) ?_
  refine hp_calli (hp_runV (As := []) (rest := []) hx hb hml hown hts (t_X13_classAtHand l D cs B G  V1 n hP.1 q hR (mo) h_mo ho9  (by omega) (by omega) (by omega) (by omega) (by omega) (by omega) (by omega) (by omega) (by assumption) (by omega)) hZ ho9 cv_X13_163 rfl rfl ⟨Nat.le_of_ble_eq_true rfl, Nat.le_of_ble_eq_true rfl⟩ rfl hl.1 rfl (Nat.le_of_ble_eq_true rfl) dX13_takeClass_5 ⟨(Nat.le_of_ble_eq_true rfl), (Nat.le_of_ble_eq_true rfl)⟩) hZ (fun r15 V12 n13 _ _ hw14 hZ => ?_)
  obtain ⟨rfl, hq16, ho18, hr17⟩ := hw14
  have hP := hP.trans hq16 (fun _ _ => rfl)
  have b19 := hq_rng r15
  refine lv_istore_n (lv' := [(1, .int (r15)), (0, .ref (mo))]) hx hb dX13_takeClass_8 rfl hl (by decide) rfl (fun ls hl => ?_)
  refine lv_iload_n hx hb dX13_takeClass_9 rfl (lv_at hl 0 rfl) ?_
  refine lv_iconst (v := -1) hx hb dX13_takeClass_10 (by decide) ?_
  refine lv_icmp_ne (tgt := 20) hx hb dX13_takeClass_11 (by decide) (fun c20 => ?_) (fun c20 => ?_)
  · have c20 : ¬ (r15).toInt = (-1 : Int) := fun h9 => c20 (hq_eqi.mpr h9)
    refine lv_aload_n hx hb dX13_takeClass_20 rfl (lv_at hl 1 rfl) ?_
    refine hp_callv (hp_runV (As := []) (rest := []) hx hb hml hown hts (t_X13_scan l D cs B G  V12 n hP.1 q hR (mo) h_mo ho18  (by omega) (by omega) (by omega) (by omega) (by omega) (by omega) (by omega) (by omega) (hm_SC.s0 (by assumption)) (hm_SC.s1 (by assumption) (by first | omega | (have h8 := hm_Is.hd (by assumption) (by omega); omega)))) hZ ho18 cv_X13_111 rfl rfl ⟨Nat.le_of_ble_eq_true rfl, Nat.le_of_ble_eq_true rfl⟩ rfl hl.1 rfl (Nat.le_of_ble_eq_true rfl) dX13_takeClass_21 ⟨(Nat.le_of_ble_eq_true rfl), (Nat.le_of_ble_eq_true rfl)⟩) hZ (fun V21 n22 _ _ hw23 hZ => ?_)
    obtain ⟨rfl, hq25, ⟨z27, z28, z29, ho30, hi31⟩⟩ := hw23
    have hP := hP.trans hq25 (by intro g h; simp_all)
    have b32 := hq_rng z27
    have b33 := hq_rng z28
    have b34 := hq_rng z29
    refine lv_iload_n hx hb dX13_takeClass_24 rfl (lv_at hl 0 rfl) ?_
    exact hq_iret hx hb hr hlocks hZ ⟨_, rfl, rfl, hP, ⟨z27, z28, z29, z7, z8, ho30, by assumption⟩, (by omega)⟩ dX13_takeClass_25
  · have c20 : (r15).toInt = (-1 : Int) := hq_eqi.mp c20
    refine lv_aload_n hx hb dX13_takeClass_14 rfl (lv_at hl 1 rfl) ?_
    refine lv_iconst (v := 2) hx hb dX13_takeClass_15 (by decide) ?_
    have hl44 : (2 : Int32).toInt = 2 := by decide
    refine hp_callq (hp_runV (As := [.int (2)]) (rest := []) hx hb hml hown hts (t_X13_wrong l D cs B G  V12 n hP.1 q hR (mo) h_mo (2) ho18  (by omega) (by omega) (by omega) (by omega) (by omega) (by omega) (by omega) (by omega) ) hZ ho18 cv_X13_107 rfl rfl ⟨Nat.le_of_ble_eq_true rfl, Nat.le_of_ble_eq_true rfl⟩ rfl hl.1 rfl (Nat.le_of_ble_eq_true rfl) dX13_takeClass_16 ⟨(Nat.le_of_ble_eq_true rfl), (Nat.le_of_ble_eq_true rfl)⟩) hZ (fun r38 V35 n36 _ _ hw37 hZ => ?_)
    obtain ⟨rfl, hq39, ⟨z41, z42, ho43⟩, hr40⟩ := hw37
    have hP := hP.trans hq39 (by intro g h; simp_all)
    have b45 := hq_rng z41
    have b46 := hq_rng z42
    subst hr40
    refine W.eq (g2 := F0 m 19 ls [.ref (q + 19)]) rfl ?_
    exact hq_athrow hx hb hnx hlocks hZ ⟨rfl, rfl, hP, ⟨m_fr, m_bh, m_hd, z41, z42, ho43, by assumption⟩⟩ dX13_takeClass_19

set_option maxHeartbeats 4000000 in
set_option maxRecDepth 100000 in
theorem t_X13_takeVerb (l : Launch) (D : va_G) (cs : Nat → ClassId) (B : Nat) (G : hq_G) (V : hp_V) (n : Nat) (hI : hq_I cs G V) (q : Nat) (hR : hq_RT G q) (mo : Nat) (h_mo : G mo = some (24, 0, 0, 0)) {m_tp m_sz m_fr m_bh m_hd m_ft m_fa m_le m_fo m_as m_fd m_bc m_bg m_bs m_be m_b0 m_b1 m_cm m_hc : Int32} (ho_mo : V mo = some (.inr (13, hm_o q (m_tp) (m_sz) (m_fr) (m_bh) (m_hd) (m_ft) (m_fa) (m_le) (m_fo) (m_as) (m_fd) (m_bc) (m_bg) (m_bs) (m_be) (m_b0) (m_b1) (m_cm) (m_hc)))) (hi_mo0 : 0 ≤ m_tp.toInt ∧ m_tp.toInt ≤ 4000) (hi_mo1 : 0 ≤ m_sz.toInt ∧ m_sz.toInt ≤ 4000) (hi_mo2 : 0 ≤ m_le.toInt ∧ m_le.toInt ≤ 276) (hi_mo3 : 0 ≤ m_fo.toInt ∧ m_fo.toInt ≤ 4) (hi_mo4 : 0 ≤ m_as.toInt ∧ m_as.toInt ≤ 4000) (hi_mo5 : 0 ≤ m_fd.toInt ∧ m_fd.toInt ≤ 900) (hi_mo6 : 0 ≤ m_cm.toInt ∧ m_cm.toInt ≤ 2) (hi_mo7 : 0 ≤ m_hc.toInt ∧ m_hc.toInt ≤ 1) (hi_mo8 : hm_SC m_sz m_fr m_bh m_hd) : hq_M l yX13_takeVerb cX13_takeVerb 2 (some .int) ({ frames := 8, cells := 0, slots := 0, locals := 170 }) D cs B V n [.ref (mo)] (hq_QX D cs B (fun v V' n' => ∃ r : Int32, v = some (.int r) ∧ n = n' ∧ hq_P cs G (fun g => g.1 == 1) V V' ∧ (∃ (m_fr1 : Int32) (m_bh1 : Int32) (m_hd1 : Int32) (m_ft1 : Int32) (m_fa1 : Int32), V' mo = some (.inr (13, hm_o q (m_tp) (m_sz) (m_fr1) (m_bh1) (m_hd1) (m_ft1) (m_fa1) (m_le) (m_fo) (m_as) (m_fd) (m_bc) (m_bg) (m_bs) (m_be) (m_b0) (m_b1) (m_cm) (m_hc))) ∧ (hm_SC m_sz m_fr1 m_bh1 m_hd1)) ∧ (0 ≤ r.toInt ∧ r.toInt < 30)) (fun x V' n' => x = q + 19 ∧ n = n' ∧ hq_P cs G (fun g => g.1 == 1) V V' ∧ (∃ (m_fr1 : Int32) (m_bh1 : Int32) (m_hd1 : Int32) (m_ft1 : Int32) (m_fa1 : Int32), V' mo = some (.inr (13, hm_o q (m_tp) (m_sz) (m_fr1) (m_bh1) (m_hd1) (m_ft1) (m_fa1) (m_le) (m_fo) (m_as) (m_fd) (m_bc) (m_bg) (m_bs) (m_be) (m_b0) (m_b1) (m_cm) (m_hc))) ∧ (hm_SC m_sz m_fr1 m_bh1 m_hd1)))) 0 0 := by
  refine hq_walk (R0 := RX13) (by decide) rfl ?_ (Nat.le_of_ble_eq_true rfl)
  intro p e s m below meth c ls hx hb hr hts hown hlocks hin hml hnx hZ hl
  have hP : hq_P cs G (fun g => g.1 == 1) V V := hq_P.rf hI
  have hl : lv_has ls 2 [(0, .ref (mo))] := hl
  have hb_m_tp := hq_rng m_tp
  have hb_m_sz := hq_rng m_sz
  have hb_m_fr := hq_rng m_fr
  have hb_m_bh := hq_rng m_bh
  have hb_m_hd := hq_rng m_hd
  have hb_m_ft := hq_rng m_ft
  have hb_m_fa := hq_rng m_fa
  have hb_m_le := hq_rng m_le
  have hb_m_fo := hq_rng m_fo
  have hb_m_as := hq_rng m_as
  have hb_m_fd := hq_rng m_fd
  have hb_m_bc := hq_rng m_bc
  have hb_m_bg := hq_rng m_bg
  have hb_m_bs := hq_rng m_bs
  have hb_m_be := hq_rng m_be
  have hb_m_b0 := hq_rng m_b0
  have hb_m_b1 := hq_rng m_b1
  have hb_m_cm := hq_rng m_cm
  have hb_m_hc := hq_rng m_hc
  refine lv_aload_n hx hb dX13_takeVerb_0 rfl (lv_at hl 0 rfl) ?_
  refine hq_callx (hq_runV (As := []) (rest := []) hx hb hml hown hts (t_X13_needName l D cs B G  V n hP.1 q hR (mo) h_mo ho_mo  (by omega) (by omega) (by omega) (by omega) (by omega) (by omega) (by omega) (by omega) (by assumption) ) hZ ho_mo cv_X13_160 rfl rfl ⟨Nat.le_of_ble_eq_true rfl, Nat.le_of_ble_eq_true rfl⟩ rfl hl.1 rfl (Nat.le_of_ble_eq_true rfl) dX13_takeVerb_1 ⟨(Nat.le_of_ble_eq_true rfl), (Nat.le_of_ble_eq_true rfl)⟩) hZ hnx hlocks (by rintro x9 V9 n9 ⟨rfl, rfl, hq9, ⟨z7x, z8x, hox0⟩⟩; have hbxz7 := hq_rng z7x; have hbxz8 := hq_rng z8x; exact ⟨rfl, rfl, hP.trans hq9 (by intro g h; simp_all), ⟨m_fr, m_bh, m_hd, z7x, z8x, hox0, by assumption⟩⟩) (fun v9 V1 n2 _ _ hw3 hZ => ?_)
  obtain ⟨rfl, rfl, hq5, ⟨z7, z8, ho9⟩, hr6⟩ := hw3
  refine W.eq (g2 := F0 m 4 ls []) rfl ?_
  have hP := hP.trans hq5 (by intro g h; simp_all)
  have b10 := hq_rng z7
  have b11 := hq_rng z8
  refine lv_aload_n hx hb dX13_takeVerb_4 rfl (lv_at hl 0 rfl) ?_
  refine hp_calli (hp_runV (As := []) (rest := []) hx hb hml hown hts (t_X13_verbAtHand l D cs B G  V1 n hP.1 q hR (mo) h_mo ho9  (by omega) (by omega) (by omega) (by omega) (by omega) (by omega) (by omega) (by omega) (by assumption) (by omega)) hZ ho9 cv_X13_166 rfl rfl ⟨Nat.le_of_ble_eq_true rfl, Nat.le_of_ble_eq_true rfl⟩ rfl hl.1 rfl (Nat.le_of_ble_eq_true rfl) dX13_takeVerb_5 ⟨(Nat.le_of_ble_eq_true rfl), (Nat.le_of_ble_eq_true rfl)⟩) hZ (fun r15 V12 n13 _ _ hw14 hZ => ?_)
  obtain ⟨rfl, hq16, ho18, hr17⟩ := hw14
  have hP := hP.trans hq16 (fun _ _ => rfl)
  have b19 := hq_rng r15
  refine lv_istore_n (lv' := [(1, .int (r15)), (0, .ref (mo))]) hx hb dX13_takeVerb_8 rfl hl (by decide) rfl (fun ls hl => ?_)
  refine lv_iload_n hx hb dX13_takeVerb_9 rfl (lv_at hl 0 rfl) ?_
  refine lv_iconst (v := -1) hx hb dX13_takeVerb_10 (by decide) ?_
  refine lv_icmp_ne (tgt := 20) hx hb dX13_takeVerb_11 (by decide) (fun c20 => ?_) (fun c20 => ?_)
  · have c20 : ¬ (r15).toInt = (-1 : Int) := fun h9 => c20 (hq_eqi.mpr h9)
    refine lv_aload_n hx hb dX13_takeVerb_20 rfl (lv_at hl 1 rfl) ?_
    refine hp_callv (hp_runV (As := []) (rest := []) hx hb hml hown hts (t_X13_scan l D cs B G  V12 n hP.1 q hR (mo) h_mo ho18  (by omega) (by omega) (by omega) (by omega) (by omega) (by omega) (by omega) (by omega) (hm_SC.s0 (by assumption)) (hm_SC.s1 (by assumption) (by first | omega | (have h8 := hm_Is.hd (by assumption) (by omega); omega)))) hZ ho18 cv_X13_111 rfl rfl ⟨Nat.le_of_ble_eq_true rfl, Nat.le_of_ble_eq_true rfl⟩ rfl hl.1 rfl (Nat.le_of_ble_eq_true rfl) dX13_takeVerb_21 ⟨(Nat.le_of_ble_eq_true rfl), (Nat.le_of_ble_eq_true rfl)⟩) hZ (fun V21 n22 _ _ hw23 hZ => ?_)
    obtain ⟨rfl, hq25, ⟨z27, z28, z29, ho30, hi31⟩⟩ := hw23
    have hP := hP.trans hq25 (by intro g h; simp_all)
    have b32 := hq_rng z27
    have b33 := hq_rng z28
    have b34 := hq_rng z29
    refine lv_iload_n hx hb dX13_takeVerb_24 rfl (lv_at hl 0 rfl) ?_
    exact hq_iret hx hb hr hlocks hZ ⟨_, rfl, rfl, hP, ⟨z27, z28, z29, z7, z8, ho30, by assumption⟩, (by omega)⟩ dX13_takeVerb_25
  · have c20 : (r15).toInt = (-1 : Int) := hq_eqi.mp c20
    refine lv_aload_n hx hb dX13_takeVerb_14 rfl (lv_at hl 1 rfl) ?_
    refine lv_iconst (v := 2) hx hb dX13_takeVerb_15 (by decide) ?_
    have hl44 : (2 : Int32).toInt = 2 := by decide
    refine hp_callq (hp_runV (As := [.int (2)]) (rest := []) hx hb hml hown hts (t_X13_wrong l D cs B G  V12 n hP.1 q hR (mo) h_mo (2) ho18  (by omega) (by omega) (by omega) (by omega) (by omega) (by omega) (by omega) (by omega) ) hZ ho18 cv_X13_107 rfl rfl ⟨Nat.le_of_ble_eq_true rfl, Nat.le_of_ble_eq_true rfl⟩ rfl hl.1 rfl (Nat.le_of_ble_eq_true rfl) dX13_takeVerb_16 ⟨(Nat.le_of_ble_eq_true rfl), (Nat.le_of_ble_eq_true rfl)⟩) hZ (fun r38 V35 n36 _ _ hw37 hZ => ?_)
    obtain ⟨rfl, hq39, ⟨z41, z42, ho43⟩, hr40⟩ := hw37
    have hP := hP.trans hq39 (by intro g h; simp_all)
    have b45 := hq_rng z41
    have b46 := hq_rng z42
    subst hr40
    refine W.eq (g2 := F0 m 19 ls [.ref (q + 19)]) rfl ?_
    exact hq_athrow hx hb hnx hlocks hZ ⟨rfl, rfl, hP, ⟨m_fr, m_bh, m_hd, z41, z42, ho43, by assumption⟩⟩ dX13_takeVerb_19

set_option maxHeartbeats 4000000 in
set_option maxRecDepth 100000 in
theorem t_X13_readWhere (l : Launch) (D : va_G) (cs : Nat → ClassId) (B : Nat) (G : hq_G) (V : hp_V) (n : Nat) (hI : hq_I cs G V) (q : Nat) (hR : hq_RT G q) (mo : Nat) (h_mo : G mo = some (24, 0, 0, 0)) (k : Int32) {m_tp m_sz m_fr m_bh m_hd m_ft m_fa m_le m_fo m_as m_fd m_bc m_bg m_bs m_be m_b0 m_b1 m_cm m_hc : Int32} (ho_mo : V mo = some (.inr (13, hm_o q (m_tp) (m_sz) (m_fr) (m_bh) (m_hd) (m_ft) (m_fa) (m_le) (m_fo) (m_as) (m_fd) (m_bc) (m_bg) (m_bs) (m_be) (m_b0) (m_b1) (m_cm) (m_hc)))) (hi_mo0 : 0 ≤ m_tp.toInt ∧ m_tp.toInt ≤ 4000) (hi_mo1 : 0 ≤ m_sz.toInt ∧ m_sz.toInt ≤ 4000) (hi_mo2 : 0 ≤ m_le.toInt ∧ m_le.toInt ≤ 276) (hi_mo3 : 0 ≤ m_fo.toInt ∧ m_fo.toInt ≤ 4) (hi_mo4 : 0 ≤ m_as.toInt ∧ m_as.toInt ≤ 4000) (hi_mo5 : 0 ≤ m_fd.toInt ∧ m_fd.toInt ≤ 900) (hi_mo6 : 0 ≤ m_cm.toInt ∧ m_cm.toInt ≤ 2) (hi_mo7 : 0 ≤ m_hc.toInt ∧ m_hc.toInt ≤ 1) (hi_mo8 : hm_SC m_sz m_fr m_bh m_hd) (hl0 : 0 ≤ k.toInt) (hl1 : k.toInt < 120) : hq_M l yX13_readWhere cX13_readWhere 2 none ({ frames := 9, cells := 0, slots := 0, locals := 191 }) D cs B V n [.ref (mo), .int (k)] (hq_QX D cs B (fun v V' n' => v = none ∧ n = n' ∧ hq_P cs G (fun g => g.1 == 1 || g.1 == 41) V V' ∧ (∃ (m_fr1 : Int32) (m_bh1 : Int32) (m_hd1 : Int32) (m_ft1 : Int32) (m_fa1 : Int32), V' mo = some (.inr (13, hm_o q (m_tp) (m_sz) (m_fr1) (m_bh1) (m_hd1) (m_ft1) (m_fa1) (m_le) (m_fo) (m_as) (m_fd) (m_bc) (m_bg) (m_bs) (m_be) (m_b0) (m_b1) (m_cm) (m_hc))) ∧ (hm_SC m_sz m_fr1 m_bh1 m_hd1))) (fun x V' n' => x = q + 19 ∧ n = n' ∧ hq_P cs G (fun g => g.1 == 1 || g.1 == 41) V V' ∧ (∃ (m_fr1 : Int32) (m_bh1 : Int32) (m_hd1 : Int32) (m_ft1 : Int32) (m_fa1 : Int32), V' mo = some (.inr (13, hm_o q (m_tp) (m_sz) (m_fr1) (m_bh1) (m_hd1) (m_ft1) (m_fa1) (m_le) (m_fo) (m_as) (m_fd) (m_bc) (m_bg) (m_bs) (m_be) (m_b0) (m_b1) (m_cm) (m_hc))) ∧ (hm_SC m_sz m_fr1 m_bh1 m_hd1)))) 0 0 := by
  refine hq_walk (R0 := RX13) (by decide) rfl ?_ (Nat.le_of_ble_eq_true rfl)
  intro p e s m below meth c ls hx hb hr hts hown hlocks hin hml hnx hZ hl
  have hP : hq_P cs G (fun g => g.1 == 1 || g.1 == 41) V V := hq_P.rf hI
  have hl : lv_has ls 2 [(0, .ref (mo)), (1, .int (k))] := hl
  have hb_k := hq_rng k
  have hb_m_tp := hq_rng m_tp
  have hb_m_sz := hq_rng m_sz
  have hb_m_fr := hq_rng m_fr
  have hb_m_bh := hq_rng m_bh
  have hb_m_hd := hq_rng m_hd
  have hb_m_ft := hq_rng m_ft
  have hb_m_fa := hq_rng m_fa
  have hb_m_le := hq_rng m_le
  have hb_m_fo := hq_rng m_fo
  have hb_m_as := hq_rng m_as
  have hb_m_fd := hq_rng m_fd
  have hb_m_bc := hq_rng m_bc
  have hb_m_bg := hq_rng m_bg
  have hb_m_bs := hq_rng m_bs
  have hb_m_be := hq_rng m_be
  have hb_m_b0 := hq_rng m_b0
  have hb_m_b1 := hq_rng m_b1
  have hb_m_cm := hq_rng m_cm
  have hb_m_hc := hq_rng m_hc
  refine lv_aload_n hx hb dX13_readWhere_0 rfl (lv_at hl 0 rfl) ?_
  refine va_ldcS (tx := (hp_so.getD 15 ("", 0, "")).2.2) (q := cs (100 + 15)) hx hb hown (hZ.2.2.2.2.2.2.2.2.2.2 15 (by decide)) dX13_readWhere_1 ?_
  refine hp_calli (hp_runV (As := [.ref (cs (100 + 15))]) (rest := []) hx hb hml hown hts (t_X13_is l D cs B G  V n hP.1 q hR (mo) h_mo 15 (by decide) ho_mo  (by omega) (by omega) (by omega) (by omega) (by omega) (by omega) (by omega) (by omega) (by assumption) ) hZ ho_mo cv_X13_103 rfl rfl ⟨Nat.le_of_ble_eq_true rfl, Nat.le_of_ble_eq_true rfl⟩ rfl hl.1 rfl (Nat.le_of_ble_eq_true rfl) dX13_readWhere_3 ⟨(Nat.le_of_ble_eq_true rfl), (Nat.le_of_ble_eq_true rfl)⟩) hZ (fun r4 V1 n2 _ _ hw3 hZ => ?_)
  obtain ⟨rfl, hq5, ho7, hr6⟩ := hw3
  have hP := hP.trans hq5 (fun _ _ => rfl)
  have b8 := hq_rng r4
  refine lv_if_eq (tgt := 14) hx hb dX13_readWhere_6 (by decide) (fun c9 => ?_) (fun c9 => ?_)
  · have c9 : (r4).toInt = (0 : Int) := hq_eqi.mp c9
    refine lv_aload_n hx hb dX13_readWhere_14 rfl (lv_at hl 0 rfl) ?_
    refine va_ldcS (tx := (hp_so.getD 16 ("", 0, "")).2.2) (q := cs (100 + 16)) hx hb hown (hZ.2.2.2.2.2.2.2.2.2.2 16 (by decide)) dX13_readWhere_15 ?_
    refine hq_callx (hq_runV (As := [.ref (cs (100 + 16))]) (rest := []) hx hb hml hown hts (t_X13_need l D cs B G  V1 n hP.1 q hR (mo) h_mo 16 (by decide) ho7  (by omega) (by omega) (by omega) (by omega) (by omega) (by omega) (by omega) (by omega) (by assumption) ) hZ ho7 cv_X13_172 rfl rfl ⟨Nat.le_of_ble_eq_true rfl, Nat.le_of_ble_eq_true rfl⟩ rfl hl.1 rfl (Nat.le_of_ble_eq_true rfl) dX13_readWhere_17 ⟨(Nat.le_of_ble_eq_true rfl), (Nat.le_of_ble_eq_true rfl)⟩) hZ hnx hlocks (by rintro x9 V9 n9 ⟨rfl, rfl, hq9, ⟨z16x, z17x, z18x, z19x, z20x, hox0, hix00⟩⟩; have hbxz16 := hq_rng z16x; have hbxz17 := hq_rng z17x; have hbxz18 := hq_rng z18x; have hbxz19 := hq_rng z19x; have hbxz20 := hq_rng z20x; exact ⟨rfl, rfl, hP.trans hq9 (by intro g h; simp_all), ⟨z16x, z17x, z18x, z19x, z20x, hox0, by assumption⟩⟩) (fun v9 V10 n11 _ _ hw12 hZ => ?_)
    obtain ⟨rfl, rfl, hq14, ⟨z16, z17, z18, z19, z20, ho21, hi22⟩⟩ := hw12
    refine W.eq (g2 := F0 m 20 ls []) rfl ?_
    have hP := hP.trans hq14 (by intro g h; simp_all)
    have b23 := hq_rng z16
    have b24 := hq_rng z17
    have b25 := hq_rng z18
    have b26 := hq_rng z19
    have b27 := hq_rng z20
    refine lv_aload_n hx hb dX13_readWhere_20 rfl (lv_at hl 0 rfl) ?_
    refine hp_get (v := .ref (q + 11)) hx hb hts hown hZ ho21 fl_X13_32 rfl dX13_readWhere_21 ?_
    refine lv_iload_n hx hb dX13_readWhere_24 rfl (lv_at hl 1 rfl) ?_
    refine lv_aload_n hx hb dX13_readWhere_25 rfl (lv_at hl 0 rfl) ?_
    refine hq_callx (hq_runV (As := []) (rest := [.int (k), .ref (q + 11)]) hx hb hml hown hts (t_X13_takeClass l D cs B G  V10 n hP.1 q hR (mo) h_mo ho21  (by omega) (by omega) (by omega) (by omega) (by omega) (by omega) (by omega) (by omega) (by assumption) ) hZ ho21 cv_X13_176 rfl rfl ⟨Nat.le_of_ble_eq_true rfl, Nat.le_of_ble_eq_true rfl⟩ rfl hl.1 rfl (Nat.le_of_ble_eq_true rfl) dX13_readWhere_26 ⟨(Nat.le_of_ble_eq_true rfl), (Nat.le_of_ble_eq_true rfl)⟩) hZ hnx hlocks (by rintro x9 V9 n9 ⟨rfl, rfl, hq9, ⟨z34x, z35x, z36x, z37x, z38x, hox0, hix00⟩⟩; have hbxz34 := hq_rng z34x; have hbxz35 := hq_rng z35x; have hbxz36 := hq_rng z36x; have hbxz37 := hq_rng z37x; have hbxz38 := hq_rng z38x; exact ⟨rfl, rfl, hP.trans hq9 (by intro g h; simp_all), ⟨z34x, z35x, z36x, z37x, z38x, hox0, by assumption⟩⟩) (fun v9 V28 n29 _ _ hw30 hZ => ?_)
    obtain ⟨r31, rfl, rfl, hq32, ⟨z34, z35, z36, z37, z38, ho39, hi40⟩, hr33⟩ := hw30
    refine W.eq (g2 := F0 m 29 ls [.int (r31), .int (k), .ref (q + 11)]) rfl ?_
    have hP := hP.trans hq32 (by intro g h; simp_all)
    have b41 := hq_rng z34
    have b42 := hq_rng z35
    have b43 := hq_rng z36
    have b44 := hq_rng z37
    have b45 := hq_rng z38
    have b46 := hq_rng r31
    obtain ⟨hN49, g48, eV47, hf50⟩ := hq_o21 hP.1 (hr_11 hR)
    refine hp_iast hx hb hZ eV47 (hq_in (by omega) (by omega)) dX13_readWhere_29 (fun V51 _ _ e52 o53 hZ => ?_)
    have e52 : V51 (q + 11) = some (.inl (cs 1, 120, .inl (upd (g48) ((k : Int32).toNatClampNeg) (r31)))) := e52
    have hP := hP.put (hr_11 hR) e52 o53 (hq_c21 (by omega) (hq_upd hf50 (hq_rng _))) rfl
    have fx54 : V51 (mo) = some (.inr (13, hm_o q (m_tp) (m_sz) (z34) (z35) (z36) (z37) (z38) (m_le) (m_fo) (m_as) (m_fd) (m_bc) (m_bg) (m_bs) (m_be) (m_b0) (m_b1) (m_cm) (m_hc))) := (o53 (mo) (hq_tne h_mo (hr_11 hR) (by simp))).trans (ho39)
    exact hq_vret hx hb hr hlocks hZ ⟨rfl, rfl, hP, ⟨z34, z35, z36, z37, z38, fx54, by assumption⟩⟩ dX13_readWhere_30
  · have c9 : ¬ (r4).toInt = (0 : Int) := fun h9 => c9 (hq_eqi.mpr h9)
    refine lv_aload_n hx hb dX13_readWhere_9 rfl (lv_at hl 0 rfl) ?_
    refine hp_callv (hp_runV (As := []) (rest := []) hx hb hml hown hts (t_X13_scan l D cs B G  V1 n hP.1 q hR (mo) h_mo ho7  (by omega) (by omega) (by omega) (by omega) (by omega) (by omega) (by omega) (by omega) (hm_SC.s0 (by assumption)) (hm_SC.s1 (by assumption) (by first | omega | (have h8 := hm_Is.hd (by assumption) (by omega); omega)))) hZ ho7 cv_X13_111 rfl rfl ⟨Nat.le_of_ble_eq_true rfl, Nat.le_of_ble_eq_true rfl⟩ rfl hl.1 rfl (Nat.le_of_ble_eq_true rfl) dX13_readWhere_10 ⟨(Nat.le_of_ble_eq_true rfl), (Nat.le_of_ble_eq_true rfl)⟩) hZ (fun V55 n56 _ _ hw57 hZ => ?_)
    obtain ⟨rfl, hq59, ⟨z61, z62, z63, ho64, hi65⟩⟩ := hw57
    have hP := hP.trans hq59 (by intro g h; simp_all)
    have b66 := hq_rng z61
    have b67 := hq_rng z62
    have b68 := hq_rng z63
    exact hq_vret hx hb hr hlocks hZ ⟨rfl, rfl, hP, ⟨z61, z62, z63, m_ft, m_fa, ho64, by assumption⟩⟩ dX13_readWhere_13

set_option maxHeartbeats 4000000 in
set_option maxRecDepth 100000 in
theorem t_X13_readSlot (l : Launch) (D : va_G) (cs : Nat → ClassId) (B : Nat) (G : hq_G) (V : hp_V) (n : Nat) (hI : hq_I cs G V) (q : Nat) (hR : hq_RT G q) (mo : Nat) (h_mo : G mo = some (24, 0, 0, 0)) (k : Int32) {m_tp m_sz m_fr m_bh m_hd m_ft m_fa m_le m_fo m_as m_fd m_bc m_bg m_bs m_be m_b0 m_b1 m_cm m_hc : Int32} (ho_mo : V mo = some (.inr (13, hm_o q (m_tp) (m_sz) (m_fr) (m_bh) (m_hd) (m_ft) (m_fa) (m_le) (m_fo) (m_as) (m_fd) (m_bc) (m_bg) (m_bs) (m_be) (m_b0) (m_b1) (m_cm) (m_hc)))) (hi_mo0 : 0 ≤ m_tp.toInt ∧ m_tp.toInt ≤ 4000) (hi_mo1 : 0 ≤ m_sz.toInt ∧ m_sz.toInt ≤ 4000) (hi_mo2 : 0 ≤ m_le.toInt ∧ m_le.toInt ≤ 276) (hi_mo3 : 0 ≤ m_fo.toInt ∧ m_fo.toInt ≤ 4) (hi_mo4 : 0 ≤ m_as.toInt ∧ m_as.toInt ≤ 4000) (hi_mo5 : 0 ≤ m_fd.toInt ∧ m_fd.toInt ≤ 900) (hi_mo6 : 0 ≤ m_cm.toInt ∧ m_cm.toInt ≤ 2) (hi_mo7 : 0 ≤ m_hc.toInt ∧ m_hc.toInt ≤ 1) (hi_mo8 : hm_SC m_sz m_fr m_bh m_hd) (hl0 : 0 ≤ k.toInt) (hl1 : k.toInt < 120) : hq_M l yX13_readSlot cX13_readSlot 2 none ({ frames := 7, cells := 0, slots := 0, locals := 150 }) D cs B V n [.ref (mo), .int (k)] (hq_QX D cs B (fun v V' n' => v = none ∧ n = n' ∧ hq_P cs G (fun g => g.1 == 1 || g.1 == 41) V V' ∧ (∃ (m_fr1 : Int32) (m_bh1 : Int32) (m_hd1 : Int32) (m_ft1 : Int32) (m_fa1 : Int32), V' mo = some (.inr (13, hm_o q (m_tp) (m_sz) (m_fr1) (m_bh1) (m_hd1) (m_ft1) (m_fa1) (m_le) (m_fo) (m_as) (m_fd) (m_bc) (m_bg) (m_bs) (m_be) (m_b0) (m_b1) (m_cm) (m_hc))) ∧ (hm_SC m_sz m_fr1 m_bh1 m_hd1))) (fun x V' n' => x = q + 19 ∧ n = n' ∧ hq_P cs G (fun g => g.1 == 1 || g.1 == 41) V V' ∧ (∃ (m_fr1 : Int32) (m_bh1 : Int32) (m_hd1 : Int32) (m_ft1 : Int32) (m_fa1 : Int32), V' mo = some (.inr (13, hm_o q (m_tp) (m_sz) (m_fr1) (m_bh1) (m_hd1) (m_ft1) (m_fa1) (m_le) (m_fo) (m_as) (m_fd) (m_bc) (m_bg) (m_bs) (m_be) (m_b0) (m_b1) (m_cm) (m_hc))) ∧ (hm_SC m_sz m_fr1 m_bh1 m_hd1)))) 0 0 := by
  refine hq_walk (R0 := RX13) (by decide) rfl ?_ (Nat.le_of_ble_eq_true rfl)
  intro p e s m below meth c ls hx hb hr hts hown hlocks hin hml hnx hZ hl
  have hP : hq_P cs G (fun g => g.1 == 1 || g.1 == 41) V V := hq_P.rf hI
  have hl : lv_has ls 2 [(0, .ref (mo)), (1, .int (k))] := hl
  have hb_k := hq_rng k
  have hb_m_tp := hq_rng m_tp
  have hb_m_sz := hq_rng m_sz
  have hb_m_fr := hq_rng m_fr
  have hb_m_bh := hq_rng m_bh
  have hb_m_hd := hq_rng m_hd
  have hb_m_ft := hq_rng m_ft
  have hb_m_fa := hq_rng m_fa
  have hb_m_le := hq_rng m_le
  have hb_m_fo := hq_rng m_fo
  have hb_m_as := hq_rng m_as
  have hb_m_fd := hq_rng m_fd
  have hb_m_bc := hq_rng m_bc
  have hb_m_bg := hq_rng m_bg
  have hb_m_bs := hq_rng m_bs
  have hb_m_be := hq_rng m_be
  have hb_m_b0 := hq_rng m_b0
  have hb_m_b1 := hq_rng m_b1
  have hb_m_cm := hq_rng m_cm
  have hb_m_hc := hq_rng m_hc
  refine lv_aload_n hx hb dX13_readSlot_0 rfl (lv_at hl 0 rfl) ?_
  refine va_ldcS (tx := (hp_so.getD 10 ("", 0, "")).2.2) (q := cs (100 + 10)) hx hb hown (hZ.2.2.2.2.2.2.2.2.2.2 10 (by decide)) dX13_readSlot_1 ?_
  refine hq_callx (hq_runV (As := [.ref (cs (100 + 10))]) (rest := []) hx hb hml hown hts (t_X13_need l D cs B G  V n hP.1 q hR (mo) h_mo 10 (by decide) ho_mo  (by omega) (by omega) (by omega) (by omega) (by omega) (by omega) (by omega) (by omega) (by assumption) ) hZ ho_mo cv_X13_172 rfl rfl ⟨Nat.le_of_ble_eq_true rfl, Nat.le_of_ble_eq_true rfl⟩ rfl hl.1 rfl (Nat.le_of_ble_eq_true rfl) dX13_readSlot_3 ⟨(Nat.le_of_ble_eq_true rfl), (Nat.le_of_ble_eq_true rfl)⟩) hZ hnx hlocks (by rintro x9 V9 n9 ⟨rfl, rfl, hq9, ⟨z7x, z8x, z9x, z10x, z11x, hox0, hix00⟩⟩; have hbxz7 := hq_rng z7x; have hbxz8 := hq_rng z8x; have hbxz9 := hq_rng z9x; have hbxz10 := hq_rng z10x; have hbxz11 := hq_rng z11x; exact ⟨rfl, rfl, hP.trans hq9 (by intro g h; simp_all), ⟨z7x, z8x, z9x, z10x, z11x, hox0, by assumption⟩⟩) (fun v9 V1 n2 _ _ hw3 hZ => ?_)
  obtain ⟨rfl, rfl, hq5, ⟨z7, z8, z9, z10, z11, ho12, hi13⟩⟩ := hw3
  refine W.eq (g2 := F0 m 6 ls []) rfl ?_
  have hP := hP.trans hq5 (by intro g h; simp_all)
  have b14 := hq_rng z7
  have b15 := hq_rng z8
  have b16 := hq_rng z9
  have b17 := hq_rng z10
  have b18 := hq_rng z11
  refine lv_aload_n hx hb dX13_readSlot_6 rfl (lv_at hl 0 rfl) ?_
  refine hp_get (v := .ref (q + 12)) hx hb hts hown hZ ho12 fl_X13_35 rfl dX13_readSlot_7 ?_
  refine lv_iload_n hx hb dX13_readSlot_10 rfl (lv_at hl 1 rfl) ?_
  refine lv_aload_n hx hb dX13_readSlot_11 rfl (lv_at hl 0 rfl) ?_
  refine lv_iconst (v := 4) hx hb dX13_readSlot_12 (by decide) ?_
  have hl32 : (4 : Int32).toInt = 4 := by decide
  refine hq_callx (hq_runV (As := [.int (4)]) (rest := [.int (k), .ref (q + 12)]) hx hb hml hown hts (t_X13_digit l D cs B G  V1 n hP.1 q hR (mo) h_mo (4) ho12  (by omega) (by omega) (by omega) (by omega) (by omega) (by omega) (by omega) (by omega) (by assumption) ) hZ ho12 cv_X13_202 rfl rfl ⟨Nat.le_of_ble_eq_true rfl, Nat.le_of_ble_eq_true rfl⟩ rfl hl.1 rfl (Nat.le_of_ble_eq_true rfl) dX13_readSlot_13 ⟨(Nat.le_of_ble_eq_true rfl), (Nat.le_of_ble_eq_true rfl)⟩) hZ hnx hlocks (by rintro x9 V9 n9 ⟨rfl, rfl, hq9, ⟨z25x, z26x, z27x, z28x, z29x, hox0, hix00⟩⟩; have hbxz25 := hq_rng z25x; have hbxz26 := hq_rng z26x; have hbxz27 := hq_rng z27x; have hbxz28 := hq_rng z28x; have hbxz29 := hq_rng z29x; exact ⟨rfl, rfl, hP.trans hq9 (by intro g h; simp_all), ⟨z25x, z26x, z27x, z28x, z29x, hox0, by assumption⟩⟩) (fun v9 V19 n20 _ _ hw21 hZ => ?_)
  obtain ⟨r22, rfl, rfl, hq23, ⟨z25, z26, z27, z28, z29, ho30, hi31⟩, hr24⟩ := hw21
  refine W.eq (g2 := F0 m 16 ls [.int (r22), .int (k), .ref (q + 12)]) rfl ?_
  have hP := hP.trans hq23 (by intro g h; simp_all)
  have b33 := hq_rng z25
  have b34 := hq_rng z26
  have b35 := hq_rng z27
  have b36 := hq_rng z28
  have b37 := hq_rng z29
  have b38 := hq_rng r22
  obtain ⟨hN41, g40, eV39, hf42⟩ := hq_o21 hP.1 (hr_12 hR)
  refine hp_iast hx hb hZ eV39 (hq_in (by omega) (by omega)) dX13_readSlot_16 (fun V43 _ _ e44 o45 hZ => ?_)
  have e44 : V43 (q + 12) = some (.inl (cs 1, 120, .inl (upd (g40) ((k : Int32).toNatClampNeg) (r22)))) := e44
  have hP := hP.put (hr_12 hR) e44 o45 (hq_c21 (by omega) (hq_upd hf42 (hq_rng _))) rfl
  refine lv_aload_n hx hb dX13_readSlot_17 rfl (lv_at hl 0 rfl) ?_
  refine va_ldcS (tx := (hp_so.getD 17 ("", 0, "")).2.2) (q := cs (100 + 17)) hx hb hown (hZ.2.2.2.2.2.2.2.2.2.2 17 (by decide)) dX13_readSlot_18 ?_
  have fx52 : V43 (mo) = some (.inr (13, hm_o q (m_tp) (m_sz) (z25) (z26) (z27) (z28) (z29) (m_le) (m_fo) (m_as) (m_fd) (m_bc) (m_bg) (m_bs) (m_be) (m_b0) (m_b1) (m_cm) (m_hc))) := (o45 (mo) (hq_tne h_mo (hr_12 hR) (by simp))).trans (ho30)
  refine hp_calli (hp_runV (As := [.ref (cs (100 + 17))]) (rest := []) hx hb hml hown hts (t_X13_is l D cs B G  V43 n hP.1 q hR (mo) h_mo 17 (by decide) fx52  (by omega) (by omega) (by omega) (by omega) (by omega) (by omega) (by omega) (by omega) (by assumption) ) hZ fx52 cv_X13_103 rfl rfl ⟨Nat.le_of_ble_eq_true rfl, Nat.le_of_ble_eq_true rfl⟩ rfl hl.1 rfl (Nat.le_of_ble_eq_true rfl) dX13_readSlot_20 ⟨(Nat.le_of_ble_eq_true rfl), (Nat.le_of_ble_eq_true rfl)⟩) hZ (fun r49 V46 n47 _ _ hw48 hZ => ?_)
  obtain ⟨rfl, hq50, ho53, hr51⟩ := hw48
  have hP := hP.trans hq50 (fun _ _ => rfl)
  have b54 := hq_rng r49
  refine lv_if_ne (tgt := 27) hx hb dX13_readSlot_23 (by decide) (fun c55 => ?_) (fun c55 => ?_)
  · have c55 : ¬ (r49).toInt = (0 : Int) := fun h9 => c55 (hq_eqi.mpr h9)
    refine lv_aload_n hx hb dX13_readSlot_27 rfl (lv_at hl 0 rfl) ?_
    refine hp_callv (hp_runV (As := []) (rest := []) hx hb hml hown hts (t_X13_scan l D cs B G  V46 n hP.1 q hR (mo) h_mo ho53  (by omega) (by omega) (by omega) (by omega) (by omega) (by omega) (by omega) (by omega) (hm_SC.s0 (by assumption)) (hm_SC.s1 (by assumption) (by first | omega | (have h8 := hm_Is.hd (by assumption) (by omega); omega)))) hZ ho53 cv_X13_111 rfl rfl ⟨Nat.le_of_ble_eq_true rfl, Nat.le_of_ble_eq_true rfl⟩ rfl hl.1 rfl (Nat.le_of_ble_eq_true rfl) dX13_readSlot_28 ⟨(Nat.le_of_ble_eq_true rfl), (Nat.le_of_ble_eq_true rfl)⟩) hZ (fun V56 n57 _ _ hw58 hZ => ?_)
    obtain ⟨rfl, hq60, ⟨z62, z63, z64, ho65, hi66⟩⟩ := hw58
    have hP := hP.trans hq60 (by intro g h; simp_all)
    have b67 := hq_rng z62
    have b68 := hq_rng z63
    have b69 := hq_rng z64
    refine lv_aload_n hx hb dX13_readSlot_31 rfl (lv_at hl 0 rfl) ?_
    refine hp_get (v := .ref (q + 13)) hx hb hts hown hZ ho65 fl_X13_38 rfl dX13_readSlot_32 ?_
    refine lv_iload_n hx hb dX13_readSlot_35 rfl (lv_at hl 1 rfl) ?_
    refine lv_aload_n hx hb dX13_readSlot_36 rfl (lv_at hl 0 rfl) ?_
    refine lv_iconst (v := 5) hx hb dX13_readSlot_37 (by decide) ?_
    have hl83 : (5 : Int32).toInt = 5 := by decide
    refine hq_callx (hq_runV (As := [.int (5)]) (rest := [.int (k), .ref (q + 13)]) hx hb hml hown hts (t_X13_digit l D cs B G  V56 n hP.1 q hR (mo) h_mo (5) ho65  (by omega) (by omega) (by omega) (by omega) (by omega) (by omega) (by omega) (by omega) (by assumption) ) hZ ho65 cv_X13_202 rfl rfl ⟨Nat.le_of_ble_eq_true rfl, Nat.le_of_ble_eq_true rfl⟩ rfl hl.1 rfl (Nat.le_of_ble_eq_true rfl) dX13_readSlot_38 ⟨(Nat.le_of_ble_eq_true rfl), (Nat.le_of_ble_eq_true rfl)⟩) hZ hnx hlocks (by rintro x9 V9 n9 ⟨rfl, rfl, hq9, ⟨z76x, z77x, z78x, z79x, z80x, hox0, hix00⟩⟩; have hbxz76 := hq_rng z76x; have hbxz77 := hq_rng z77x; have hbxz78 := hq_rng z78x; have hbxz79 := hq_rng z79x; have hbxz80 := hq_rng z80x; exact ⟨rfl, rfl, hP.trans hq9 (by intro g h; simp_all), ⟨z76x, z77x, z78x, z79x, z80x, hox0, by assumption⟩⟩) (fun v9 V70 n71 _ _ hw72 hZ => ?_)
    obtain ⟨r73, rfl, rfl, hq74, ⟨z76, z77, z78, z79, z80, ho81, hi82⟩, hr75⟩ := hw72
    refine W.eq (g2 := F0 m 41 ls [.int (r73), .int (k), .ref (q + 13)]) rfl ?_
    have hP := hP.trans hq74 (by intro g h; simp_all)
    have b84 := hq_rng z76
    have b85 := hq_rng z77
    have b86 := hq_rng z78
    have b87 := hq_rng z79
    have b88 := hq_rng z80
    have b89 := hq_rng r73
    obtain ⟨hN92, g91, eV90, hf93⟩ := hq_o21 hP.1 (hr_13 hR)
    refine hp_iast hx hb hZ eV90 (hq_in (by omega) (by omega)) dX13_readSlot_41 (fun V94 _ _ e95 o96 hZ => ?_)
    have e95 : V94 (q + 13) = some (.inl (cs 1, 120, .inl (upd (g91) ((k : Int32).toNatClampNeg) (r73)))) := e95
    have hP := hP.put (hr_13 hR) e95 o96 (hq_c21 (by omega) (hq_upd hf93 (hq_rng _))) rfl
    have fx97 : V94 (mo) = some (.inr (13, hm_o q (m_tp) (m_sz) (z76) (z77) (z78) (z79) (z80) (m_le) (m_fo) (m_as) (m_fd) (m_bc) (m_bg) (m_bs) (m_be) (m_b0) (m_b1) (m_cm) (m_hc))) := (o96 (mo) (hq_tne h_mo (hr_13 hR) (by simp))).trans (ho81)
    exact hq_vret hx hb hr hlocks hZ ⟨rfl, rfl, hP, ⟨z76, z77, z78, z79, z80, fx97, by assumption⟩⟩ dX13_readSlot_42
  · have c55 : (r49).toInt = (0 : Int) := hq_eqi.mp c55
    exact hq_vret hx hb hr hlocks hZ ⟨rfl, rfl, hP, ⟨z25, z26, z27, z28, z29, ho53, by assumption⟩⟩ dX13_readSlot_26

set_option maxHeartbeats 4000000 in
set_option maxRecDepth 100000 in
theorem t_X13_readCompound (l : Launch) (D : va_G) (cs : Nat → ClassId) (B : Nat) (G : hq_G) (V : hp_V) (n : Nat) (hI : hq_I cs G V) (q : Nat) (hR : hq_RT G q) (mo : Nat) (h_mo : G mo = some (24, 0, 0, 0)) (k : Int32) {m_tp m_sz m_fr m_bh m_hd m_ft m_fa m_le m_fo m_as m_fd m_bc m_bg m_bs m_be m_b0 m_b1 m_cm m_hc : Int32} (ho_mo : V mo = some (.inr (13, hm_o q (m_tp) (m_sz) (m_fr) (m_bh) (m_hd) (m_ft) (m_fa) (m_le) (m_fo) (m_as) (m_fd) (m_bc) (m_bg) (m_bs) (m_be) (m_b0) (m_b1) (m_cm) (m_hc)))) (hi_mo0 : 0 ≤ m_tp.toInt ∧ m_tp.toInt ≤ 4000) (hi_mo1 : 0 ≤ m_sz.toInt ∧ m_sz.toInt ≤ 4000) (hi_mo2 : 0 ≤ m_le.toInt ∧ m_le.toInt ≤ 276) (hi_mo3 : 0 ≤ m_fo.toInt ∧ m_fo.toInt ≤ 4) (hi_mo4 : 0 ≤ m_as.toInt ∧ m_as.toInt ≤ 4000) (hi_mo5 : 0 ≤ m_fd.toInt ∧ m_fd.toInt ≤ 900) (hi_mo6 : 0 ≤ m_cm.toInt ∧ m_cm.toInt ≤ 2) (hi_mo7 : 0 ≤ m_hc.toInt ∧ m_hc.toInt ≤ 1) (hi_mo8 : hm_SC m_sz m_fr m_bh m_hd) (hl0 : 0 ≤ k.toInt) (hl1 : k.toInt < 120) : hq_M l yX13_readCompound cX13_readCompound 2 none ({ frames := 9, cells := 0, slots := 0, locals := 191 }) D cs B V n [.ref (mo), .int (k)] (hq_QX D cs B (fun v V' n' => v = none ∧ n = n' ∧ hq_P cs G (fun g => g.1 == 1 || g.1 == 41) V V' ∧ (∃ (m_fr1 : Int32) (m_bh1 : Int32) (m_hd1 : Int32) (m_ft1 : Int32) (m_fa1 : Int32), V' mo = some (.inr (13, hm_o q (m_tp) (m_sz) (m_fr1) (m_bh1) (m_hd1) (m_ft1) (m_fa1) (m_le) (m_fo) (m_as) (m_fd) (m_bc) (m_bg) (m_bs) (m_be) (m_b0) (m_b1) (m_cm) (m_hc))) ∧ (hm_SC m_sz m_fr1 m_bh1 m_hd1))) (fun x V' n' => x = q + 19 ∧ n = n' ∧ hq_P cs G (fun g => g.1 == 1 || g.1 == 41) V V' ∧ (∃ (m_fr1 : Int32) (m_bh1 : Int32) (m_hd1 : Int32) (m_ft1 : Int32) (m_fa1 : Int32), V' mo = some (.inr (13, hm_o q (m_tp) (m_sz) (m_fr1) (m_bh1) (m_hd1) (m_ft1) (m_fa1) (m_le) (m_fo) (m_as) (m_fd) (m_bc) (m_bg) (m_bs) (m_be) (m_b0) (m_b1) (m_cm) (m_hc))) ∧ (hm_SC m_sz m_fr1 m_bh1 m_hd1)))) 0 0 := by
  refine hq_walk (R0 := RX13) (by decide) rfl ?_ (Nat.le_of_ble_eq_true rfl)
  intro p e s m below meth c ls hx hb hr hts hown hlocks hin hml hnx hZ hl
  have hP : hq_P cs G (fun g => g.1 == 1 || g.1 == 41) V V := hq_P.rf hI
  have hl : lv_has ls 2 [(0, .ref (mo)), (1, .int (k))] := hl
  have hb_k := hq_rng k
  have hb_m_tp := hq_rng m_tp
  have hb_m_sz := hq_rng m_sz
  have hb_m_fr := hq_rng m_fr
  have hb_m_bh := hq_rng m_bh
  have hb_m_hd := hq_rng m_hd
  have hb_m_ft := hq_rng m_ft
  have hb_m_fa := hq_rng m_fa
  have hb_m_le := hq_rng m_le
  have hb_m_fo := hq_rng m_fo
  have hb_m_as := hq_rng m_as
  have hb_m_fd := hq_rng m_fd
  have hb_m_bc := hq_rng m_bc
  have hb_m_bg := hq_rng m_bg
  have hb_m_bs := hq_rng m_bs
  have hb_m_be := hq_rng m_be
  have hb_m_b0 := hq_rng m_b0
  have hb_m_b1 := hq_rng m_b1
  have hb_m_cm := hq_rng m_cm
  have hb_m_hc := hq_rng m_hc
  refine lv_aload_n hx hb dX13_readCompound_0 rfl (lv_at hl 0 rfl) ?_
  refine va_ldcS (tx := (hp_so.getD 10 ("", 0, "")).2.2) (q := cs (100 + 10)) hx hb hown (hZ.2.2.2.2.2.2.2.2.2.2 10 (by decide)) dX13_readCompound_1 ?_
  refine hq_callx (hq_runV (As := [.ref (cs (100 + 10))]) (rest := []) hx hb hml hown hts (t_X13_need l D cs B G  V n hP.1 q hR (mo) h_mo 10 (by decide) ho_mo  (by omega) (by omega) (by omega) (by omega) (by omega) (by omega) (by omega) (by omega) (by assumption) ) hZ ho_mo cv_X13_172 rfl rfl ⟨Nat.le_of_ble_eq_true rfl, Nat.le_of_ble_eq_true rfl⟩ rfl hl.1 rfl (Nat.le_of_ble_eq_true rfl) dX13_readCompound_3 ⟨(Nat.le_of_ble_eq_true rfl), (Nat.le_of_ble_eq_true rfl)⟩) hZ hnx hlocks (by rintro x9 V9 n9 ⟨rfl, rfl, hq9, ⟨z7x, z8x, z9x, z10x, z11x, hox0, hix00⟩⟩; have hbxz7 := hq_rng z7x; have hbxz8 := hq_rng z8x; have hbxz9 := hq_rng z9x; have hbxz10 := hq_rng z10x; have hbxz11 := hq_rng z11x; exact ⟨rfl, rfl, hP.trans hq9 (by intro g h; simp_all), ⟨z7x, z8x, z9x, z10x, z11x, hox0, by assumption⟩⟩) (fun v9 V1 n2 _ _ hw3 hZ => ?_)
  obtain ⟨rfl, rfl, hq5, ⟨z7, z8, z9, z10, z11, ho12, hi13⟩⟩ := hw3
  refine W.eq (g2 := F0 m 6 ls []) rfl ?_
  have hP := hP.trans hq5 (by intro g h; simp_all)
  have b14 := hq_rng z7
  have b15 := hq_rng z8
  have b16 := hq_rng z9
  have b17 := hq_rng z10
  have b18 := hq_rng z11
  refine lv_aload_n hx hb dX13_readCompound_6 rfl (lv_at hl 0 rfl) ?_
  refine hp_get (v := .ref (q + 12)) hx hb hts hown hZ ho12 fl_X13_35 rfl dX13_readCompound_7 ?_
  refine lv_iload_n hx hb dX13_readCompound_10 rfl (lv_at hl 1 rfl) ?_
  refine lv_aload_n hx hb dX13_readCompound_11 rfl (lv_at hl 0 rfl) ?_
  refine lv_iconst (v := 4) hx hb dX13_readCompound_12 (by decide) ?_
  have hl32 : (4 : Int32).toInt = 4 := by decide
  refine hq_callx (hq_runV (As := [.int (4)]) (rest := [.int (k), .ref (q + 12)]) hx hb hml hown hts (t_X13_digit l D cs B G  V1 n hP.1 q hR (mo) h_mo (4) ho12  (by omega) (by omega) (by omega) (by omega) (by omega) (by omega) (by omega) (by omega) (by assumption) ) hZ ho12 cv_X13_202 rfl rfl ⟨Nat.le_of_ble_eq_true rfl, Nat.le_of_ble_eq_true rfl⟩ rfl hl.1 rfl (Nat.le_of_ble_eq_true rfl) dX13_readCompound_13 ⟨(Nat.le_of_ble_eq_true rfl), (Nat.le_of_ble_eq_true rfl)⟩) hZ hnx hlocks (by rintro x9 V9 n9 ⟨rfl, rfl, hq9, ⟨z25x, z26x, z27x, z28x, z29x, hox0, hix00⟩⟩; have hbxz25 := hq_rng z25x; have hbxz26 := hq_rng z26x; have hbxz27 := hq_rng z27x; have hbxz28 := hq_rng z28x; have hbxz29 := hq_rng z29x; exact ⟨rfl, rfl, hP.trans hq9 (by intro g h; simp_all), ⟨z25x, z26x, z27x, z28x, z29x, hox0, by assumption⟩⟩) (fun v9 V19 n20 _ _ hw21 hZ => ?_)
  obtain ⟨r22, rfl, rfl, hq23, ⟨z25, z26, z27, z28, z29, ho30, hi31⟩, hr24⟩ := hw21
  refine W.eq (g2 := F0 m 16 ls [.int (r22), .int (k), .ref (q + 12)]) rfl ?_
  have hP := hP.trans hq23 (by intro g h; simp_all)
  have b33 := hq_rng z25
  have b34 := hq_rng z26
  have b35 := hq_rng z27
  have b36 := hq_rng z28
  have b37 := hq_rng z29
  have b38 := hq_rng r22
  obtain ⟨hN41, g40, eV39, hf42⟩ := hq_o21 hP.1 (hr_12 hR)
  refine hp_iast hx hb hZ eV39 (hq_in (by omega) (by omega)) dX13_readCompound_16 (fun V43 _ _ e44 o45 hZ => ?_)
  have e44 : V43 (q + 12) = some (.inl (cs 1, 120, .inl (upd (g40) ((k : Int32).toNatClampNeg) (r22)))) := e44
  have hP := hP.put (hr_12 hR) e44 o45 (hq_c21 (by omega) (hq_upd hf42 (hq_rng _))) rfl
  refine lv_aload_n hx hb dX13_readCompound_17 rfl (lv_at hl 0 rfl) ?_
  refine va_ldcS (tx := (hp_so.getD 11 ("", 0, "")).2.2) (q := cs (100 + 11)) hx hb hown (hZ.2.2.2.2.2.2.2.2.2.2 11 (by decide)) dX13_readCompound_18 ?_
  have fx52 : V43 (mo) = some (.inr (13, hm_o q (m_tp) (m_sz) (z25) (z26) (z27) (z28) (z29) (m_le) (m_fo) (m_as) (m_fd) (m_bc) (m_bg) (m_bs) (m_be) (m_b0) (m_b1) (m_cm) (m_hc))) := (o45 (mo) (hq_tne h_mo (hr_12 hR) (by simp))).trans (ho30)
  refine hq_callx (hq_runV (As := [.ref (cs (100 + 11))]) (rest := []) hx hb hml hown hts (t_X13_need l D cs B G  V43 n hP.1 q hR (mo) h_mo 11 (by decide) fx52  (by omega) (by omega) (by omega) (by omega) (by omega) (by omega) (by omega) (by omega) (by assumption) ) hZ fx52 cv_X13_172 rfl rfl ⟨Nat.le_of_ble_eq_true rfl, Nat.le_of_ble_eq_true rfl⟩ rfl hl.1 rfl (Nat.le_of_ble_eq_true rfl) dX13_readCompound_20 ⟨(Nat.le_of_ble_eq_true rfl), (Nat.le_of_ble_eq_true rfl)⟩) hZ hnx hlocks (by rintro x9 V9 n9 ⟨rfl, rfl, hq9, ⟨z53x, z54x, z55x, z56x, z57x, hox0, hix00⟩⟩; have hbxz53 := hq_rng z53x; have hbxz54 := hq_rng z54x; have hbxz55 := hq_rng z55x; have hbxz56 := hq_rng z56x; have hbxz57 := hq_rng z57x; exact ⟨rfl, rfl, hP.trans hq9 (by intro g h; simp_all), ⟨z53x, z54x, z55x, z56x, z57x, hox0, by assumption⟩⟩) (fun v9 V46 n47 _ _ hw48 hZ => ?_)
  obtain ⟨rfl, rfl, hq50, ⟨z53, z54, z55, z56, z57, ho58, hi59⟩⟩ := hw48
  refine W.eq (g2 := F0 m 23 ls []) rfl ?_
  have hP := hP.trans hq50 (by intro g h; simp_all)
  have b60 := hq_rng z53
  have b61 := hq_rng z54
  have b62 := hq_rng z55
  have b63 := hq_rng z56
  have b64 := hq_rng z57
  refine lv_aload_n hx hb dX13_readCompound_23 rfl (lv_at hl 0 rfl) ?_
  refine hp_get (v := .ref (q + 16)) hx hb hts hown hZ ho58 fl_X13_47 rfl dX13_readCompound_24 ?_
  refine lv_iload_n hx hb dX13_readCompound_27 rfl (lv_at hl 1 rfl) ?_
  refine lv_aload_n hx hb dX13_readCompound_28 rfl (lv_at hl 0 rfl) ?_
  refine hq_callx (hq_runV (As := []) (rest := [.int (k), .ref (q + 16)]) hx hb hml hown hts (t_X13_takeVerb l D cs B G  V46 n hP.1 q hR (mo) h_mo ho58  (by omega) (by omega) (by omega) (by omega) (by omega) (by omega) (by omega) (by omega) (by assumption) ) hZ ho58 cv_X13_182 rfl rfl ⟨Nat.le_of_ble_eq_true rfl, Nat.le_of_ble_eq_true rfl⟩ rfl hl.1 rfl (Nat.le_of_ble_eq_true rfl) dX13_readCompound_29 ⟨(Nat.le_of_ble_eq_true rfl), (Nat.le_of_ble_eq_true rfl)⟩) hZ hnx hlocks (by rintro x9 V9 n9 ⟨rfl, rfl, hq9, ⟨z71x, z72x, z73x, z74x, z75x, hox0, hix00⟩⟩; have hbxz71 := hq_rng z71x; have hbxz72 := hq_rng z72x; have hbxz73 := hq_rng z73x; have hbxz74 := hq_rng z74x; have hbxz75 := hq_rng z75x; exact ⟨rfl, rfl, hP.trans hq9 (by intro g h; simp_all), ⟨z71x, z72x, z73x, z74x, z75x, hox0, by assumption⟩⟩) (fun v9 V65 n66 _ _ hw67 hZ => ?_)
  obtain ⟨r68, rfl, rfl, hq69, ⟨z71, z72, z73, z74, z75, ho76, hi77⟩, hr70⟩ := hw67
  refine W.eq (g2 := F0 m 32 ls [.int (r68), .int (k), .ref (q + 16)]) rfl ?_
  have hP := hP.trans hq69 (by intro g h; simp_all)
  have b78 := hq_rng z71
  have b79 := hq_rng z72
  have b80 := hq_rng z73
  have b81 := hq_rng z74
  have b82 := hq_rng z75
  have b83 := hq_rng r68
  obtain ⟨hN86, g85, eV84, hf87⟩ := hq_o21 hP.1 (hr_16 hR)
  refine hp_iast hx hb hZ eV84 (hq_in (by omega) (by omega)) dX13_readCompound_32 (fun V88 _ _ e89 o90 hZ => ?_)
  have e89 : V88 (q + 16) = some (.inl (cs 1, 120, .inl (upd (g85) ((k : Int32).toNatClampNeg) (r68)))) := e89
  have hP := hP.put (hr_16 hR) e89 o90 (hq_c21 (by omega) (hq_upd hf87 (show 0 ≤ _ ∧ _ ≤ 29 by constructor <;> omega))) rfl
  refine lv_aload_n hx hb dX13_readCompound_33 rfl (lv_at hl 0 rfl) ?_
  refine va_ldcS (tx := (hp_so.getD 10 ("", 0, "")).2.2) (q := cs (100 + 10)) hx hb hown (hZ.2.2.2.2.2.2.2.2.2.2 10 (by decide)) dX13_readCompound_34 ?_
  have fx97 : V88 (mo) = some (.inr (13, hm_o q (m_tp) (m_sz) (z71) (z72) (z73) (z74) (z75) (m_le) (m_fo) (m_as) (m_fd) (m_bc) (m_bg) (m_bs) (m_be) (m_b0) (m_b1) (m_cm) (m_hc))) := (o90 (mo) (hq_tne h_mo (hr_16 hR) (by simp))).trans (ho76)
  refine hq_callx (hq_runV (As := [.ref (cs (100 + 10))]) (rest := []) hx hb hml hown hts (t_X13_need l D cs B G  V88 n hP.1 q hR (mo) h_mo 10 (by decide) fx97  (by omega) (by omega) (by omega) (by omega) (by omega) (by omega) (by omega) (by omega) (by assumption) ) hZ fx97 cv_X13_172 rfl rfl ⟨Nat.le_of_ble_eq_true rfl, Nat.le_of_ble_eq_true rfl⟩ rfl hl.1 rfl (Nat.le_of_ble_eq_true rfl) dX13_readCompound_36 ⟨(Nat.le_of_ble_eq_true rfl), (Nat.le_of_ble_eq_true rfl)⟩) hZ hnx hlocks (by rintro x9 V9 n9 ⟨rfl, rfl, hq9, ⟨z98x, z99x, z100x, z101x, z102x, hox0, hix00⟩⟩; have hbxz98 := hq_rng z98x; have hbxz99 := hq_rng z99x; have hbxz100 := hq_rng z100x; have hbxz101 := hq_rng z101x; have hbxz102 := hq_rng z102x; exact ⟨rfl, rfl, hP.trans hq9 (by intro g h; simp_all), ⟨z98x, z99x, z100x, z101x, z102x, hox0, by assumption⟩⟩) (fun v9 V91 n92 _ _ hw93 hZ => ?_)
  obtain ⟨rfl, rfl, hq95, ⟨z98, z99, z100, z101, z102, ho103, hi104⟩⟩ := hw93
  refine W.eq (g2 := F0 m 39 ls []) rfl ?_
  have hP := hP.trans hq95 (by intro g h; simp_all)
  have b105 := hq_rng z98
  have b106 := hq_rng z99
  have b107 := hq_rng z100
  have b108 := hq_rng z101
  have b109 := hq_rng z102
  refine lv_aload_n hx hb dX13_readCompound_39 rfl (lv_at hl 0 rfl) ?_
  refine hp_get (v := .ref (q + 17)) hx hb hts hown hZ ho103 fl_X13_50 rfl dX13_readCompound_40 ?_
  refine lv_iload_n hx hb dX13_readCompound_43 rfl (lv_at hl 1 rfl) ?_
  refine lv_aload_n hx hb dX13_readCompound_44 rfl (lv_at hl 0 rfl) ?_
  refine lv_iconst (v := 4) hx hb dX13_readCompound_45 (by decide) ?_
  have hl123 : (4 : Int32).toInt = 4 := by decide
  refine hq_callx (hq_runV (As := [.int (4)]) (rest := [.int (k), .ref (q + 17)]) hx hb hml hown hts (t_X13_digit l D cs B G  V91 n hP.1 q hR (mo) h_mo (4) ho103  (by omega) (by omega) (by omega) (by omega) (by omega) (by omega) (by omega) (by omega) (by assumption) ) hZ ho103 cv_X13_202 rfl rfl ⟨Nat.le_of_ble_eq_true rfl, Nat.le_of_ble_eq_true rfl⟩ rfl hl.1 rfl (Nat.le_of_ble_eq_true rfl) dX13_readCompound_46 ⟨(Nat.le_of_ble_eq_true rfl), (Nat.le_of_ble_eq_true rfl)⟩) hZ hnx hlocks (by rintro x9 V9 n9 ⟨rfl, rfl, hq9, ⟨z116x, z117x, z118x, z119x, z120x, hox0, hix00⟩⟩; have hbxz116 := hq_rng z116x; have hbxz117 := hq_rng z117x; have hbxz118 := hq_rng z118x; have hbxz119 := hq_rng z119x; have hbxz120 := hq_rng z120x; exact ⟨rfl, rfl, hP.trans hq9 (by intro g h; simp_all), ⟨z116x, z117x, z118x, z119x, z120x, hox0, by assumption⟩⟩) (fun v9 V110 n111 _ _ hw112 hZ => ?_)
  obtain ⟨r113, rfl, rfl, hq114, ⟨z116, z117, z118, z119, z120, ho121, hi122⟩, hr115⟩ := hw112
  refine W.eq (g2 := F0 m 49 ls [.int (r113), .int (k), .ref (q + 17)]) rfl ?_
  have hP := hP.trans hq114 (by intro g h; simp_all)
  have b124 := hq_rng z116
  have b125 := hq_rng z117
  have b126 := hq_rng z118
  have b127 := hq_rng z119
  have b128 := hq_rng z120
  have b129 := hq_rng r113
  obtain ⟨hN132, g131, eV130, hf133⟩ := hq_o21 hP.1 (hr_17 hR)
  refine hp_iast hx hb hZ eV130 (hq_in (by omega) (by omega)) dX13_readCompound_49 (fun V134 _ _ e135 o136 hZ => ?_)
  have e135 : V134 (q + 17) = some (.inl (cs 1, 120, .inl (upd (g131) ((k : Int32).toNatClampNeg) (r113)))) := e135
  have hP := hP.put (hr_17 hR) e135 o136 (hq_c21 (by omega) (hq_upd hf133 (hq_rng _))) rfl
  refine lv_aload_n hx hb dX13_readCompound_50 rfl (lv_at hl 0 rfl) ?_
  refine va_ldcS (tx := (hp_so.getD 12 ("", 0, "")).2.2) (q := cs (100 + 12)) hx hb hown (hZ.2.2.2.2.2.2.2.2.2.2 12 (by decide)) dX13_readCompound_51 ?_
  have fx143 : V134 (mo) = some (.inr (13, hm_o q (m_tp) (m_sz) (z116) (z117) (z118) (z119) (z120) (m_le) (m_fo) (m_as) (m_fd) (m_bc) (m_bg) (m_bs) (m_be) (m_b0) (m_b1) (m_cm) (m_hc))) := (o136 (mo) (hq_tne h_mo (hr_17 hR) (by simp))).trans (ho121)
  refine hq_callx (hq_runV (As := [.ref (cs (100 + 12))]) (rest := []) hx hb hml hown hts (t_X13_need l D cs B G  V134 n hP.1 q hR (mo) h_mo 12 (by decide) fx143  (by omega) (by omega) (by omega) (by omega) (by omega) (by omega) (by omega) (by omega) (by assumption) ) hZ fx143 cv_X13_172 rfl rfl ⟨Nat.le_of_ble_eq_true rfl, Nat.le_of_ble_eq_true rfl⟩ rfl hl.1 rfl (Nat.le_of_ble_eq_true rfl) dX13_readCompound_53 ⟨(Nat.le_of_ble_eq_true rfl), (Nat.le_of_ble_eq_true rfl)⟩) hZ hnx hlocks (by rintro x9 V9 n9 ⟨rfl, rfl, hq9, ⟨z144x, z145x, z146x, z147x, z148x, hox0, hix00⟩⟩; have hbxz144 := hq_rng z144x; have hbxz145 := hq_rng z145x; have hbxz146 := hq_rng z146x; have hbxz147 := hq_rng z147x; have hbxz148 := hq_rng z148x; exact ⟨rfl, rfl, hP.trans hq9 (by intro g h; simp_all), ⟨z144x, z145x, z146x, z147x, z148x, hox0, by assumption⟩⟩) (fun v9 V137 n138 _ _ hw139 hZ => ?_)
  obtain ⟨rfl, rfl, hq141, ⟨z144, z145, z146, z147, z148, ho149, hi150⟩⟩ := hw139
  refine W.eq (g2 := F0 m 56 ls []) rfl ?_
  have hP := hP.trans hq141 (by intro g h; simp_all)
  have b151 := hq_rng z144
  have b152 := hq_rng z145
  have b153 := hq_rng z146
  have b154 := hq_rng z147
  have b155 := hq_rng z148
  refine lv_aload_n hx hb dX13_readCompound_56 rfl (lv_at hl 0 rfl) ?_
  refine hp_get (v := .ref (q + 18)) hx hb hts hown hZ ho149 fl_X13_53 rfl dX13_readCompound_57 ?_
  refine lv_iload_n hx hb dX13_readCompound_60 rfl (lv_at hl 1 rfl) ?_
  refine lv_aload_n hx hb dX13_readCompound_61 rfl (lv_at hl 0 rfl) ?_
  refine lv_iconst (v := 4) hx hb dX13_readCompound_62 (by decide) ?_
  have hl169 : (4 : Int32).toInt = 4 := by decide
  refine hq_callx (hq_runV (As := [.int (4)]) (rest := [.int (k), .ref (q + 18)]) hx hb hml hown hts (t_X13_digit l D cs B G  V137 n hP.1 q hR (mo) h_mo (4) ho149  (by omega) (by omega) (by omega) (by omega) (by omega) (by omega) (by omega) (by omega) (by assumption) ) hZ ho149 cv_X13_202 rfl rfl ⟨Nat.le_of_ble_eq_true rfl, Nat.le_of_ble_eq_true rfl⟩ rfl hl.1 rfl (Nat.le_of_ble_eq_true rfl) dX13_readCompound_63 ⟨(Nat.le_of_ble_eq_true rfl), (Nat.le_of_ble_eq_true rfl)⟩) hZ hnx hlocks (by rintro x9 V9 n9 ⟨rfl, rfl, hq9, ⟨z162x, z163x, z164x, z165x, z166x, hox0, hix00⟩⟩; have hbxz162 := hq_rng z162x; have hbxz163 := hq_rng z163x; have hbxz164 := hq_rng z164x; have hbxz165 := hq_rng z165x; have hbxz166 := hq_rng z166x; exact ⟨rfl, rfl, hP.trans hq9 (by intro g h; simp_all), ⟨z162x, z163x, z164x, z165x, z166x, hox0, by assumption⟩⟩) (fun v9 V156 n157 _ _ hw158 hZ => ?_)
  obtain ⟨r159, rfl, rfl, hq160, ⟨z162, z163, z164, z165, z166, ho167, hi168⟩, hr161⟩ := hw158
  refine W.eq (g2 := F0 m 66 ls [.int (r159), .int (k), .ref (q + 18)]) rfl ?_
  have hP := hP.trans hq160 (by intro g h; simp_all)
  have b170 := hq_rng z162
  have b171 := hq_rng z163
  have b172 := hq_rng z164
  have b173 := hq_rng z165
  have b174 := hq_rng z166
  have b175 := hq_rng r159
  obtain ⟨hN178, g177, eV176, hf179⟩ := hq_o21 hP.1 (hr_18 hR)
  refine hp_iast hx hb hZ eV176 (hq_in (by omega) (by omega)) dX13_readCompound_66 (fun V180 _ _ e181 o182 hZ => ?_)
  have e181 : V180 (q + 18) = some (.inl (cs 1, 120, .inl (upd (g177) ((k : Int32).toNatClampNeg) (r159)))) := e181
  have hP := hP.put (hr_18 hR) e181 o182 (hq_c21 (by omega) (hq_upd hf179 (hq_rng _))) rfl
  have fx183 : V180 (mo) = some (.inr (13, hm_o q (m_tp) (m_sz) (z162) (z163) (z164) (z165) (z166) (m_le) (m_fo) (m_as) (m_fd) (m_bc) (m_bg) (m_bs) (m_be) (m_b0) (m_b1) (m_cm) (m_hc))) := (o182 (mo) (hq_tne h_mo (hr_18 hR) (by simp))).trans (ho167)
  exact hq_vret hx hb hr hlocks hZ ⟨rfl, rfl, hP, ⟨z162, z163, z164, z165, z166, fx183, by assumption⟩⟩ dX13_readCompound_67

set_option maxHeartbeats 4000000 in
set_option maxRecDepth 100000 in
theorem t_X13_alike (l : Launch) (D : va_G) (cs : Nat → ClassId) (B : Nat) (G : hq_G) (V : hp_V) (n : Nat) (hI : hq_I cs G V) (q : Nat) (hR : hq_RT G q) (mo : Nat) (h_mo : G mo = some (24, 0, 0, 0)) (k : Int32) {m_tp m_sz m_fr m_bh m_hd m_ft m_fa m_le m_fo m_as m_fd m_bc m_bg m_bs m_be m_b0 m_b1 m_cm m_hc : Int32} (ho_mo : V mo = some (.inr (13, hm_o q (m_tp) (m_sz) (m_fr) (m_bh) (m_hd) (m_ft) (m_fa) (m_le) (m_fo) (m_as) (m_fd) (m_bc) (m_bg) (m_bs) (m_be) (m_b0) (m_b1) (m_cm) (m_hc)))) (hi_mo0 : 0 ≤ m_tp.toInt ∧ m_tp.toInt ≤ 4000) (hi_mo1 : 0 ≤ m_sz.toInt ∧ m_sz.toInt ≤ 4000) (hi_mo2 : 0 ≤ m_le.toInt ∧ m_le.toInt ≤ 276) (hi_mo3 : 0 ≤ m_fo.toInt ∧ m_fo.toInt ≤ 4) (hi_mo4 : 0 ≤ m_as.toInt ∧ m_as.toInt ≤ 4000) (hi_mo5 : 0 ≤ m_fd.toInt ∧ m_fd.toInt ≤ 900) (hi_mo6 : 0 ≤ m_cm.toInt ∧ m_cm.toInt ≤ 2) (hi_mo7 : 0 ≤ m_hc.toInt ∧ m_hc.toInt ≤ 1) (hi_mo8 : hm_SC m_sz m_fr m_bh m_hd) (hl0 : 0 ≤ k.toInt) (hl1 : k.toInt < 120) : hp_M l yX13_alike cX13_alike 4 (some .int) ({ frames := 1, cells := 0, slots := 0, locals := 21 }) D cs B V n [.ref (mo), .int (k)] (hp_QI D cs B (fun r V' n' => n = n' ∧ hq_P cs G (fun _ => false) V V' ∧ (V' mo = some (.inr (13, hm_o q (m_tp) (m_sz) (m_fr) (m_bh) (m_hd) (m_ft) (m_fa) (m_le) (m_fo) (m_as) (m_fd) (m_bc) (m_bg) (m_bs) (m_be) (m_b0) (m_b1) (m_cm) (m_hc)))) ∧ True)) 0 0 := by
  refine hp_walk (R0 := RX13) (by decide) rfl ?_ (Nat.le_of_ble_eq_true rfl)
  intro p e s m below meth c ls hx hb hr hts hown hlocks hin hml hZ hl
  have hP : hq_P cs G (fun _ => false) V V := hq_P.rf hI
  have hl : lv_has ls 4 [(0, .ref (mo)), (1, .int (k))] := hl
  have hb_k := hq_rng k
  have hb_m_tp := hq_rng m_tp
  have hb_m_sz := hq_rng m_sz
  have hb_m_fr := hq_rng m_fr
  have hb_m_bh := hq_rng m_bh
  have hb_m_hd := hq_rng m_hd
  have hb_m_ft := hq_rng m_ft
  have hb_m_fa := hq_rng m_fa
  have hb_m_le := hq_rng m_le
  have hb_m_fo := hq_rng m_fo
  have hb_m_as := hq_rng m_as
  have hb_m_fd := hq_rng m_fd
  have hb_m_bc := hq_rng m_bc
  have hb_m_bg := hq_rng m_bg
  have hb_m_bs := hq_rng m_bs
  have hb_m_be := hq_rng m_be
  have hb_m_b0 := hq_rng m_b0
  have hb_m_b1 := hq_rng m_b1
  have hb_m_cm := hq_rng m_cm
  have hb_m_hc := hq_rng m_hc
  refine lv_iconst (v := 0) hx hb dX13_alike_0 (by decide) ?_
  refine lv_istore_n (lv' := [(2, .int (0)), (0, .ref (mo)), (1, .int (k))]) hx hb dX13_alike_1 rfl hl (by decide) rfl (fun ls hl => ?_)
  refine lv_bipush (v := 60) hx hb dX13_alike_2 (by decide) ?_
  refine lv_istore_n (lv' := [(3, .int (60)), (2, .int (0)), (0, .ref (mo)), (1, .int (k))]) hx hb dX13_alike_4 rfl hl (by decide) rfl (fun ls hl => ?_)
  have hl1 : (0 : Int32).toInt = 0 := by decide
  have hl2 : (60 : Int32).toInt = 60 := by decide
  suffices lp5 : ∀ (k9 : Nat) (V9 : hp_V) (H9 : Heap) (locs9 : List Loc) (ls : Array Slot) (no : Int32) (i : Int32), (200 - i.toInt).toNat = k9 → hp_Z D cs B s V9 H9 n locs9 → hq_P cs G (fun _ => false) V V9 → 60 ≤ i.toInt → i.toInt ≤ 121 → lv_has ls 4 [(3, .int (i)), (2, .int (no)), (0, .ref (mo)), (1, .int (k))] → W p l e ({ frames := 1, cells := 0, slots := 0, locals := 21 }) s m ([.ref (mo), .int (k)] : List Value).toArray below meth c H9 locs9 0 0 (MQ below (hp_QI D cs B (fun r V' n' => n = n' ∧ hq_P cs G (fun _ => false) V V' ∧ (V' mo = some (.inr (13, hm_o q (m_tp) (m_sz) (m_fr) (m_bh) (m_hd) (m_ft) (m_fa) (m_le) (m_fo) (m_as) (m_fd) (m_bc) (m_bg) (m_bs) (m_be) (m_b0) (m_b1) (m_cm) (m_hc)))) ∧ True)) ([.ref (mo), .int (k)] : List Value).toArray s 0 0 (hp_F B)) (F0 m 5 ls []) from lp5 _ _ _ _ ls (0) (60) rfl hZ hP (by omega) (by omega) (lv_sub hl [0, 1, 2, 3] rfl)
  intro k9
  induction k9 using Nat.strongRecOn with
  | _ k9 ih5 =>
    intro V9 H9 locs9 ls no i  hk5 hZ hP  hv3 hv4 hl
    have hb_no := hq_rng no
    have hb_i := hq_rng i
    have hP_5 := hP
    refine lv_iload_n hx hb dX13_alike_5 rfl (lv_at hl 0 rfl) ?_
    refine lv_iload_n hx hb dX13_alike_6 rfl (lv_at hl 3 rfl) ?_
    refine lv_icmp_ge (tgt := 79) hx hb dX13_alike_7 (by decide) (fun c5 => ?_) (fun c5 => ?_)
    · have c5 : (k).toInt ≤ (i).toInt := hq_lei.mp c5
      refine lv_iload_n hx hb dX13_alike_79 rfl (lv_at hl 1 rfl) ?_
      have fx6 : V9 (mo) = some (.inr (13, hm_o q (m_tp) (m_sz) (m_fr) (m_bh) (m_hd) (m_ft) (m_fa) (m_le) (m_fo) (m_as) (m_fd) (m_bc) (m_bg) (m_bs) (m_be) (m_b0) (m_b1) (m_cm) (m_hc))) := (hP_5.2 (mo) _ h_mo rfl).trans (ho_mo)
      exact hp_iret hx hb hr hlocks hZ ⟨rfl, hP, fx6, trivial⟩ dX13_alike_80
    · have c5 : ¬ (k).toInt ≤ (i).toInt := fun h9 => c5 (hq_lei.mpr h9)
      refine lv_iload_n hx hb dX13_alike_10 rfl (lv_at hl 1 rfl) ?_
      refine hq_join (P := fun y => True) (f := fun y => F0 m 71 ls (.int y :: [.int (no)])) (fun y7 hy8 => ?_) (fun jn71 => ?_)
      · have hy8 : True := hy8
        have b9 := hq_rng y7
        refine lv_iadd hx hb dX13_alike_71 ?_
        refine lv_topi (fun y10 ey11 => ?_)
        obtain ⟨k12, hk13, b14, b15⟩ := hq_add (no) (y7)
        rw [← ey11] at hk13 b14 b15
        have hk13 : (y10).toInt = (no).toInt + (y7).toInt + k12 * 4294967296 := hk13
        refine lv_istore_n (lv' := [(2, .int (y10)), (3, .int (i)), (0, .ref (mo)), (1, .int (k))]) hx hb dX13_alike_72 rfl hl (by decide) rfl (fun ls hl => ?_)
        obtain ⟨y16, ey17⟩ : ∃ y : Int32, y = i + (1) := ⟨_, rfl⟩
        obtain ⟨k18, hk19, b20, b21⟩ := hq_add (i) (1)
        rw [← ey17] at hk19 b20 b21
        have hk19 : (y16).toInt = (i).toInt + (1) + k18 * 4294967296 := hk19
        refine lv_iinc (v := y16) (lv' := [(3, .int (y16)), (2, .int (y10)), (0, .ref (mo)), (1, .int (k))]) hx hb dX13_alike_73 hl (k := 1) rfl (by rw [ey17]; rfl) (by decide) rfl (fun ls hl => ?_)
        refine lv_goto (tgt := 5) hx hb dX13_alike_76 (by decide) ?_
        exact ih5 _ (by omega) _ _ _ ls (y10) (y16) rfl hZ hP (by omega) (by omega) (lv_sub hl [0, 1, 2, 3] rfl)
      ·
        refine lv_aload_n hx hb dX13_alike_11 rfl (lv_at hl 2 rfl) ?_
        have fx22 : V9 (mo) = some (.inr (13, hm_o q (m_tp) (m_sz) (m_fr) (m_bh) (m_hd) (m_ft) (m_fa) (m_le) (m_fo) (m_as) (m_fd) (m_bc) (m_bg) (m_bs) (m_be) (m_b0) (m_b1) (m_cm) (m_hc))) := (hP_5.2 (mo) _ h_mo rfl).trans (ho_mo)
        refine hp_get (v := .ref (q + 10)) hx hb hts hown hZ fx22 fl_X13_29 rfl dX13_alike_12 ?_
        refine lv_iload_n hx hb dX13_alike_15 rfl (lv_at hl 0 rfl) ?_
        obtain ⟨hN25, g24, eV23, hf26⟩ := hq_o21 hP.1 (hr_10 hR)
        refine hp_iald hx hb hZ eV23 (hq_in (by omega) (by omega)) dX13_alike_16 ?_
        refine lv_topi (fun y27 ey28 => ?_)
        have b29 := hq_rng y27
        refine lv_iconst (v := 4) hx hb dX13_alike_17 (by decide) ?_
        refine lv_icmp_ne (tgt := 70) hx hb dX13_alike_18 (by decide) (fun c30 => ?_) (fun c30 => ?_)
        · have c30 : ¬ (y27).toInt = (4 : Int) := fun h9 => c30 (hq_eqi.mpr h9)
          refine lv_iconst (v := 0) hx hb dX13_alike_70 (by decide) ?_
          exact jn71 (0) trivial
        · have c30 : (y27).toInt = (4 : Int) := hq_eqi.mp c30
          refine lv_aload_n hx hb dX13_alike_21 rfl (lv_at hl 2 rfl) ?_
          refine hp_get (v := .ref (q + 11)) hx hb hts hown hZ fx22 fl_X13_32 rfl dX13_alike_22 ?_
          refine lv_iload_n hx hb dX13_alike_25 rfl (lv_at hl 0 rfl) ?_
          obtain ⟨hN33, g32, eV31, hf34⟩ := hq_o21 hP.1 (hr_11 hR)
          refine hp_iald hx hb hZ eV31 (hq_in (by omega) (by omega)) dX13_alike_26 ?_
          refine lv_topi (fun y35 ey36 => ?_)
          have b37 := hq_rng y35
          refine lv_aload_n hx hb dX13_alike_27 rfl (lv_at hl 2 rfl) ?_
          refine hp_get (v := .ref (q + 11)) hx hb hts hown hZ fx22 fl_X13_32 rfl dX13_alike_28 ?_
          refine lv_iload_n hx hb dX13_alike_31 rfl (lv_at hl 3 rfl) ?_
          refine hp_iald hx hb hZ eV31 (hq_in (by omega) (by omega)) dX13_alike_32 ?_
          refine lv_topi (fun y38 ey39 => ?_)
          have b40 := hq_rng y38
          refine lv_icmp_ne (tgt := 70) hx hb dX13_alike_33 (by decide) (fun c41 => ?_) (fun c41 => ?_)
          · have c41 : ¬ (y35).toInt = (y38).toInt := fun h9 => c41 (hq_eqi.mpr h9)
            refine lv_iconst (v := 0) hx hb dX13_alike_70 (by decide) ?_
            exact jn71 (0) trivial
          · have c41 : (y35).toInt = (y38).toInt := hq_eqi.mp c41
            refine lv_aload_n hx hb dX13_alike_36 rfl (lv_at hl 2 rfl) ?_
            refine hp_get (v := .ref (q + 12)) hx hb hts hown hZ fx22 fl_X13_35 rfl dX13_alike_37 ?_
            refine lv_iload_n hx hb dX13_alike_40 rfl (lv_at hl 0 rfl) ?_
            obtain ⟨hN44, g43, eV42, hf45⟩ := hq_o21 hP.1 (hr_12 hR)
            refine hp_iald hx hb hZ eV42 (hq_in (by omega) (by omega)) dX13_alike_41 ?_
            refine lv_topi (fun y46 ey47 => ?_)
            have b48 := hq_rng y46
            refine lv_aload_n hx hb dX13_alike_42 rfl (lv_at hl 2 rfl) ?_
            refine hp_get (v := .ref (q + 12)) hx hb hts hown hZ fx22 fl_X13_35 rfl dX13_alike_43 ?_
            refine lv_iload_n hx hb dX13_alike_46 rfl (lv_at hl 3 rfl) ?_
            refine hp_iald hx hb hZ eV42 (hq_in (by omega) (by omega)) dX13_alike_47 ?_
            refine lv_topi (fun y49 ey50 => ?_)
            have b51 := hq_rng y49
            refine lv_icmp_ne (tgt := 70) hx hb dX13_alike_48 (by decide) (fun c52 => ?_) (fun c52 => ?_)
            · have c52 : ¬ (y46).toInt = (y49).toInt := fun h9 => c52 (hq_eqi.mpr h9)
              refine lv_iconst (v := 0) hx hb dX13_alike_70 (by decide) ?_
              exact jn71 (0) trivial
            · have c52 : (y46).toInt = (y49).toInt := hq_eqi.mp c52
              refine lv_aload_n hx hb dX13_alike_51 rfl (lv_at hl 2 rfl) ?_
              refine hp_get (v := .ref (q + 13)) hx hb hts hown hZ fx22 fl_X13_38 rfl dX13_alike_52 ?_
              refine lv_iload_n hx hb dX13_alike_55 rfl (lv_at hl 0 rfl) ?_
              obtain ⟨hN55, g54, eV53, hf56⟩ := hq_o21 hP.1 (hr_13 hR)
              refine hp_iald hx hb hZ eV53 (hq_in (by omega) (by omega)) dX13_alike_56 ?_
              refine lv_topi (fun y57 ey58 => ?_)
              have b59 := hq_rng y57
              refine lv_aload_n hx hb dX13_alike_57 rfl (lv_at hl 2 rfl) ?_
              refine hp_get (v := .ref (q + 13)) hx hb hts hown hZ fx22 fl_X13_38 rfl dX13_alike_58 ?_
              refine lv_iload_n hx hb dX13_alike_61 rfl (lv_at hl 3 rfl) ?_
              refine hp_iald hx hb hZ eV53 (hq_in (by omega) (by omega)) dX13_alike_62 ?_
              refine lv_topi (fun y60 ey61 => ?_)
              have b62 := hq_rng y60
              refine lv_icmp_ne (tgt := 70) hx hb dX13_alike_63 (by decide) (fun c63 => ?_) (fun c63 => ?_)
              · have c63 : ¬ (y57).toInt = (y60).toInt := fun h9 => c63 (hq_eqi.mpr h9)
                refine lv_iconst (v := 0) hx hb dX13_alike_70 (by decide) ?_
                exact jn71 (0) trivial
              · have c63 : (y57).toInt = (y60).toInt := hq_eqi.mp c63
                refine lv_iconst (v := 1) hx hb dX13_alike_66 (by decide) ?_
                refine lv_goto (tgt := 71) hx hb dX13_alike_67 (by decide) ?_
                exact jn71 (1) trivial

set_option maxHeartbeats 4000000 in
set_option maxRecDepth 100000 in
theorem t_X13_takeLetters (l : Launch) (D : va_G) (cs : Nat → ClassId) (B : Nat) (G : hq_G) (V : hp_V) (n : Nat) (hI : hq_I cs G V) (q : Nat) (hR : hq_RT G q) (mo : Nat) (h_mo : G mo = some (24, 0, 0, 0)) (to : Nat) (h_to : G to = some (20, 960, 41, 0)) (k : Int32) {m_tp m_sz m_fr m_bh m_hd m_ft m_fa m_le m_fo m_as m_fd m_bc m_bg m_bs m_be m_b0 m_b1 m_cm m_hc : Int32} (ho_mo : V mo = some (.inr (13, hm_o q (m_tp) (m_sz) (m_fr) (m_bh) (m_hd) (m_ft) (m_fa) (m_le) (m_fo) (m_as) (m_fd) (m_bc) (m_bg) (m_bs) (m_be) (m_b0) (m_b1) (m_cm) (m_hc)))) (hi_mo0 : 0 ≤ m_tp.toInt ∧ m_tp.toInt ≤ 4000) (hi_mo1 : 0 ≤ m_sz.toInt ∧ m_sz.toInt ≤ 4000) (hi_mo2 : 0 ≤ m_le.toInt ∧ m_le.toInt ≤ 276) (hi_mo3 : 0 ≤ m_fo.toInt ∧ m_fo.toInt ≤ 4) (hi_mo4 : 0 ≤ m_as.toInt ∧ m_as.toInt ≤ 4000) (hi_mo5 : 0 ≤ m_fd.toInt ∧ m_fd.toInt ≤ 900) (hi_mo6 : 0 ≤ m_cm.toInt ∧ m_cm.toInt ≤ 2) (hi_mo7 : 0 ≤ m_hc.toInt ∧ m_hc.toInt ≤ 1) (hi_mo8 : hm_SC m_sz m_fr m_bh m_hd) (hl0 : 0 ≤ k.toInt) (hl1 : k.toInt < 120) (hh : m_hd.toInt = 3) : hp_M l yX13_takeLetters cX13_takeLetters 5 (some .int) ({ frames := 3, cells := 0, slots := 0, locals := 64 }) D cs B V n [.ref (mo), .ref (to), .int (k)] (hp_QI D cs B (fun r V' n' => n = n' ∧ hq_P cs G (fun g => g.1 == 1 || g.1 == 41) V V' ∧ (∃ (m_fr1 : Int32) (m_bh1 : Int32) (m_hd1 : Int32), V' mo = some (.inr (13, hm_o q (m_tp) (m_sz) (m_fr1) (m_bh1) (m_hd1) (m_ft) (m_fa) (m_le) (m_fo) (m_as) (m_fd) (m_bc) (m_bg) (m_bs) (m_be) (m_b0) (m_b1) (m_cm) (m_hc))) ∧ (hm_SC m_sz m_fr1 m_bh1 m_hd1)) ∧ (r.toInt = m_bh.toInt - m_fr.toInt - 2))) 0 0 := by
  refine hp_walk (R0 := RX13) (by decide) rfl ?_ (Nat.le_of_ble_eq_true rfl)
  intro p e s m below meth c ls hx hb hr hts hown hlocks hin hml hZ hl
  have hP : hq_P cs G (fun g => g.1 == 1 || g.1 == 41) V V := hq_P.rf hI
  have hl : lv_has ls 5 [(0, .ref (mo)), (1, .ref (to)), (2, .int (k))] := hl
  have hb_k := hq_rng k
  have hb_m_tp := hq_rng m_tp
  have hb_m_sz := hq_rng m_sz
  have hb_m_fr := hq_rng m_fr
  have hb_m_bh := hq_rng m_bh
  have hb_m_hd := hq_rng m_hd
  have hb_m_ft := hq_rng m_ft
  have hb_m_fa := hq_rng m_fa
  have hb_m_le := hq_rng m_le
  have hb_m_fo := hq_rng m_fo
  have hb_m_as := hq_rng m_as
  have hb_m_fd := hq_rng m_fd
  have hb_m_bc := hq_rng m_bc
  have hb_m_bg := hq_rng m_bg
  have hb_m_bs := hq_rng m_bs
  have hb_m_be := hq_rng m_be
  have hb_m_b0 := hq_rng m_b0
  have hb_m_b1 := hq_rng m_b1
  have hb_m_cm := hq_rng m_cm
  have hb_m_hc := hq_rng m_hc
  have hscu := hm_SC.out (by assumption)
  refine lv_aload_n hx hb dX13_takeLetters_0 rfl (lv_at hl 0 rfl) ?_
  refine hp_get (v := .int (m_bh)) hx hb hts hown hZ ho_mo fl_X13_76 rfl dX13_takeLetters_1 ?_
  refine lv_aload_n hx hb dX13_takeLetters_4 rfl (lv_at hl 0 rfl) ?_
  refine hp_get (v := .int (m_fr)) hx hb hts hown hZ ho_mo fl_X13_60 rfl dX13_takeLetters_5 ?_
  refine lv_isub hx hb dX13_takeLetters_8 ?_
  refine lv_topi (fun y1 ey2 => ?_)
  obtain ⟨k3, hk4, b5, b6⟩ := hq_sub (m_bh) (m_fr)
  rw [← ey2] at hk4 b5 b6
  have hk4 : (y1).toInt = (m_bh).toInt - (m_fr).toInt + k3 * 4294967296 := hk4
  obtain rfl : k3 = 0 := by omega
  refine lv_iconst (v := 2) hx hb dX13_takeLetters_9 (by decide) ?_
  refine lv_isub hx hb dX13_takeLetters_10 ?_
  refine lv_topi (fun y7 ey8 => ?_)
  obtain ⟨k9, hk10, b11, b12⟩ := hq_sub (y1) (2)
  rw [← ey8] at hk10 b11 b12
  have hk10 : (y7).toInt = (y1).toInt - (2 : Int) + k9 * 4294967296 := hk10
  obtain rfl : k9 = 0 := by omega
  refine lv_istore_n (lv' := [(3, .int (y7)), (0, .ref (mo)), (1, .ref (to)), (2, .int (k))]) hx hb dX13_takeLetters_11 rfl hl (by decide) rfl (fun ls hl => ?_)
  refine lv_iconst (v := 0) hx hb dX13_takeLetters_12 (by decide) ?_
  refine lv_istore (lv' := [(4, .int (0)), (3, .int (y7)), (0, .ref (mo)), (1, .ref (to)), (2, .int (k))]) hx hb dX13_takeLetters_13 hl (by decide) rfl (fun ls hl => ?_)
  have hl13 : (0 : Int32).toInt = 0 := by decide
  suffices lp15 : ∀ (k9 : Nat) (V9 : hp_V) (H9 : Heap) (locs9 : List Loc) (ls : Array Slot) (i : Int32), (100 - i.toInt).toNat = k9 → hp_Z D cs B s V9 H9 n locs9 → hq_P cs G (fun g => g.1 == 1 || g.1 == 41) V V9 → V9 (mo) = some (.inr (13, hm_o q (m_tp) (m_sz) (m_fr) (m_bh) (m_hd) (m_ft) (m_fa) (m_le) (m_fo) (m_as) (m_fd) (m_bc) (m_bg) (m_bs) (m_be) (m_b0) (m_b1) (m_cm) (m_hc))) → 0 ≤ i.toInt → i.toInt ≤ 10 → lv_has ls 5 [(4, .int (i)), (3, .int (y7)), (0, .ref (mo)), (1, .ref (to)), (2, .int (k))] → W p l e ({ frames := 3, cells := 0, slots := 0, locals := 64 }) s m ([.ref (mo), .ref (to), .int (k)] : List Value).toArray below meth c H9 locs9 0 0 (MQ below (hp_QI D cs B (fun r V' n' => n = n' ∧ hq_P cs G (fun g => g.1 == 1 || g.1 == 41) V V' ∧ (∃ (m_fr1 : Int32) (m_bh1 : Int32) (m_hd1 : Int32), V' mo = some (.inr (13, hm_o q (m_tp) (m_sz) (m_fr1) (m_bh1) (m_hd1) (m_ft) (m_fa) (m_le) (m_fo) (m_as) (m_fd) (m_bc) (m_bg) (m_bs) (m_be) (m_b0) (m_b1) (m_cm) (m_hc))) ∧ (hm_SC m_sz m_fr1 m_bh1 m_hd1)) ∧ (r.toInt = m_bh.toInt - m_fr.toInt - 2))) ([.ref (mo), .ref (to), .int (k)] : List Value).toArray s 0 0 (hp_F B)) (F0 m 15 ls []) from lp15 _ _ _ _ ls (0) rfl hZ hP ho_mo (by omega) (by omega) (lv_sub hl [0, 1, 2, 3, 4] rfl)
  intro k9
  induction k9 using Nat.strongRecOn with
  | _ k9 ih15 =>
    intro V9 H9 locs9 ls i  hk15 hZ hP ho14 hv15 hv16 hl
    have hb_i := hq_rng i
    have hP_15 := hP
    refine lv_iload hx hb dX13_takeLetters_15 (lv_at hl 0 rfl) ?_
    refine lv_iload_n hx hb dX13_takeLetters_17 rfl (lv_at hl 1 rfl) ?_
    refine lv_icmp_ge (tgt := 50) hx hb dX13_takeLetters_18 (by decide) (fun c17 => ?_) (fun c17 => ?_)
    · have c17 : (y7).toInt ≤ (i).toInt := hq_lei.mp c17
      refine lv_aload_n hx hb dX13_takeLetters_50 rfl (lv_at hl 2 rfl) ?_
      refine hp_callv (hp_runV (As := []) (rest := []) hx hb hml hown hts (t_X13_scan l D cs B G  V9 n hP.1 q hR (mo) h_mo ho14  (by omega) (by omega) (by omega) (by omega) (by omega) (by omega) (by omega) (by omega) (hm_SC.s0 (by assumption)) (hm_SC.s1 (by assumption) (by first | omega | (have h8 := hm_Is.hd (by assumption) (by omega); omega)))) hZ ho14 cv_X13_111 rfl rfl ⟨Nat.le_of_ble_eq_true rfl, Nat.le_of_ble_eq_true rfl⟩ rfl hl.1 rfl (Nat.le_of_ble_eq_true rfl) dX13_takeLetters_51 ⟨(Nat.le_of_ble_eq_true rfl), (Nat.le_of_ble_eq_true rfl)⟩) hZ (fun V18 n19 _ _ hw20 hZ => ?_)
      obtain ⟨rfl, hq22, ⟨z24, z25, z26, ho27, hi28⟩⟩ := hw20
      have hP := hP.trans hq22 (by intro g h; simp_all)
      have b29 := hq_rng z24
      have b30 := hq_rng z25
      have b31 := hq_rng z26
      refine lv_iload_n hx hb dX13_takeLetters_54 rfl (lv_at hl 1 rfl) ?_
      exact hp_iret hx hb hr hlocks hZ ⟨rfl, hP, ⟨z24, z25, z26, ho27, by assumption⟩, (by omega)⟩ dX13_takeLetters_55
    · have c17 : ¬ (y7).toInt ≤ (i).toInt := fun h9 => c17 (hq_lei.mpr h9)
      refine lv_aload_n hx hb dX13_takeLetters_21 rfl (lv_at hl 3 rfl) ?_
      refine lv_bipush (v := 8) hx hb dX13_takeLetters_22 (by decide) ?_
      refine lv_iload_n hx hb dX13_takeLetters_24 rfl (lv_at hl 4 rfl) ?_
      refine lv_imul hx hb dX13_takeLetters_25 ?_
      refine lv_topi (fun y32 ey33 => ?_)
      obtain ⟨k34, hk35, b36, b37⟩ := hq_mul (8) (k)
      rw [← ey33] at hk35 b36 b37
      have hk35 : (y32).toInt = (8 : Int) * (k).toInt + k34 * 4294967296 := hk35
      obtain rfl : k34 = 0 := by omega
      refine lv_iload hx hb dX13_takeLetters_26 (lv_at hl 0 rfl) ?_
      refine lv_iadd hx hb dX13_takeLetters_28 ?_
      refine lv_topi (fun y38 ey39 => ?_)
      obtain ⟨k40, hk41, b42, b43⟩ := hq_add (y32) (i)
      rw [← ey39] at hk41 b42 b43
      have hk41 : (y38).toInt = (y32).toInt + (i).toInt + k40 * 4294967296 := hk41
      obtain rfl : k40 = 0 := by omega
      refine lv_aload_n hx hb dX13_takeLetters_29 rfl (lv_at hl 2 rfl) ?_
      refine hp_get (v := .ref (q + 20)) hx hb hts hown hZ ho14 fl_X13_73 rfl dX13_takeLetters_30 ?_
      refine lv_aload_n hx hb dX13_takeLetters_33 rfl (lv_at hl 2 rfl) ?_
      refine hp_get (v := .int (m_fr)) hx hb hts hown hZ ho14 fl_X13_60 rfl dX13_takeLetters_34 ?_
      refine lv_iconst (v := 1) hx hb dX13_takeLetters_37 (by decide) ?_
      refine lv_iadd hx hb dX13_takeLetters_38 ?_
      refine lv_topi (fun y44 ey45 => ?_)
      obtain ⟨k46, hk47, b48, b49⟩ := hq_add (m_fr) (1)
      rw [← ey45] at hk47 b48 b49
      have hk47 : (y44).toInt = (m_fr).toInt + (1 : Int) + k46 * 4294967296 := hk47
      obtain rfl : k46 = 0 := by omega
      refine lv_iload hx hb dX13_takeLetters_39 (lv_at hl 0 rfl) ?_
      refine lv_iadd hx hb dX13_takeLetters_41 ?_
      refine lv_topi (fun y50 ey51 => ?_)
      obtain ⟨k52, hk53, b54, b55⟩ := hq_add (y44) (i)
      rw [← ey51] at hk53 b54 b55
      have hk53 : (y50).toInt = (y44).toInt + (i).toInt + k52 * 4294967296 := hk53
      obtain rfl : k52 = 0 := by omega
      obtain ⟨hN58, g57, eV56⟩ := hq_o20 hP.1 (hr_20 hR)
      refine hp_bald hx hb hZ eV56 (hq_in (by omega) (by omega)) dX13_takeLetters_42 ?_
      refine lv_topi (fun y60 ey61 => ?_)
      have b62 := hq_rng y60
      obtain ⟨hN65, g64, eV63⟩ := hq_o20 hP.1 h_to
      refine hp_bast hx hb hZ eV63 (hq_in (by omega) (by omega)) dX13_takeLetters_43 (fun V67 _ _ e68 o69 hZ => ?_)
      have e68 : V67 (to) = some (.inl (cs 0, 960, .inl (upd (g64) ((y38 : Int32).toNatClampNeg) ((y60 : Int32).toInt8.toInt32)))) := e68
      have hP := hP.put h_to e68 o69 (hq_c20 (by omega)) rfl
      obtain ⟨y70, ey71⟩ : ∃ y : Int32, y = i + (1) := ⟨_, rfl⟩
      obtain ⟨k72, hk73, b74, b75⟩ := hq_add (i) (1)
      rw [← ey71] at hk73 b74 b75
      have hk73 : (y70).toInt = (i).toInt + (1) + k72 * 4294967296 := hk73
      refine lv_iinc (v := y70) (lv' := [(4, .int (y70)), (3, .int (y7)), (0, .ref (mo)), (1, .ref (to)), (2, .int (k))]) hx hb dX13_takeLetters_44 hl (k := 0) rfl (by rw [ey71]; rfl) (by decide) rfl (fun ls hl => ?_)
      refine lv_goto (tgt := 15) hx hb dX13_takeLetters_47 (by decide) ?_
      have fx76 : V67 (mo) = some (.inr (13, hm_o q (m_tp) (m_sz) (m_fr) (m_bh) (m_hd) (m_ft) (m_fa) (m_le) (m_fo) (m_as) (m_fd) (m_bc) (m_bg) (m_bs) (m_be) (m_b0) (m_b1) (m_cm) (m_hc))) := (o69 (mo) (hq_tne h_mo h_to (by simp))).trans (ho14)
      exact ih15 _ (by omega) _ _ _ ls (y70) rfl hZ hP fx76 (by omega) (by omega) (lv_sub hl [0, 1, 2, 3, 4] rfl)

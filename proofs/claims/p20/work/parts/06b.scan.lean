set_option maxHeartbeats 4000000 in
set_option maxRecDepth 100000 in
theorem t_X13_in (l : Launch) (D : va_G) (cs : Nat → ClassId) (B : Nat) (G : hq_G) (V : hp_V) (n : Nat) (hI : hq_I cs G V) (v : Int64) (lo : Int64) (hi : Int64) : hp_M l yX13_in cX13_in 6 (some .boolean) ({ frames := 1, cells := 0, slots := 0, locals := 21 }) D cs B V n [.long (v), .long (lo), .long (hi)] (hp_QI D cs B (fun r V' n' => n = n' ∧ hq_P cs G (fun _ => false) V V' ∧ ((r.toInt = 1 ∧ lo.toInt ≤ v.toInt ∧ v.toInt ≤ hi.toInt) ∨ (r.toInt = 0 ∧ ¬ (lo.toInt ≤ v.toInt ∧ v.toInt ≤ hi.toInt))))) 0 0 := by
  refine hp_walk (R0 := RX13) (by decide) rfl ?_ (Nat.le_of_ble_eq_true rfl)
  intro p e s m below meth c ls hx hb hr hts hown hlocks hin hml hZ hl
  have hP : hq_P cs G (fun _ => false) V V := hq_P.rf hI
  have hl : lv_has ls 6 [(0, .long (v)), (2, .long (lo)), (4, .long (hi))] := hl
  refine lv_lload_n hx hb dX13_in_0 rfl (lv_at hl 0 rfl) ?_
  refine lv_lload_n hx hb dX13_in_1 rfl (lv_at hl 1 rfl) ?_
  refine W.lcmp hx hb dX13_in_2 ?_
  refine lv_topi (fun y1 ey2 => ?_)
  have b3 := hm_cmp (v) (lo)
  rw [← ey2] at b3
  refine lv_if_lt (tgt := 17) hx hb dX13_in_3 (by decide) (fun c4 => ?_) (fun c4 => ?_)
  · have c4 : (y1).toInt < (0 : Int) := hq_lti.mp c4
    refine lv_iconst (v := 0) hx hb dX13_in_17 (by decide) ?_
    exact hp_zret hx hb hr rfl hlocks hZ ⟨rfl, hP, (Or.inr ⟨by decide, by omega⟩)⟩ dX13_in_18
  · have c4 : ¬ (y1).toInt < (0 : Int) := fun h9 => c4 (hq_lti.mpr h9)
    refine lv_lload_n hx hb dX13_in_6 rfl (lv_at hl 0 rfl) ?_
    refine lv_lload hx hb dX13_in_7 (lv_at hl 2 rfl) ?_
    refine W.lcmp hx hb dX13_in_9 ?_
    refine lv_topi (fun y5 ey6 => ?_)
    have b7 := hm_cmp (v) (hi)
    rw [← ey6] at b7
    refine lv_if_gt (tgt := 17) hx hb dX13_in_10 (by decide) (fun c8 => ?_) (fun c8 => ?_)
    · have c8 : (0 : Int) < (y5).toInt := hq_lti.mp c8
      refine lv_iconst (v := 0) hx hb dX13_in_17 (by decide) ?_
      exact hp_zret hx hb hr rfl hlocks hZ ⟨rfl, hP, (Or.inr ⟨by decide, by omega⟩)⟩ dX13_in_18
    · have c8 : ¬ (0 : Int) < (y5).toInt := fun h9 => c8 (hq_lti.mpr h9)
      refine lv_iconst (v := 1) hx hb dX13_in_13 (by decide) ?_
      refine lv_goto (tgt := 18) hx hb dX13_in_14 (by decide) ?_
      exact hp_zret hx hb hr rfl hlocks hZ ⟨rfl, hP, (Or.inl ⟨by decide, by omega, by omega⟩)⟩ dX13_in_18

set_option maxHeartbeats 4000000 in
set_option maxRecDepth 100000 in
theorem t_X13_isFigure (l : Launch) (D : va_G) (cs : Nat → ClassId) (B : Nat) (G : hq_G) (V : hp_V) (n : Nat) (hI : hq_I cs G V) (k : Int32) : hp_M l yX13_isFigure cX13_isFigure 1 (some .boolean) ({ frames := 1, cells := 0, slots := 0, locals := 21 }) D cs B V n [.int (k)] (hp_QI D cs B (fun r V' n' => n = n' ∧ hq_P cs G (fun _ => false) V V' ∧ (r.toInt = 0 ∨ (r.toInt = 1 ∧ 48 ≤ k.toInt ∧ k.toInt ≤ 57)))) 0 0 := by
  refine hp_walk (R0 := RX13) (by decide) rfl ?_ (Nat.le_of_ble_eq_true rfl)
  intro p e s m below meth c ls hx hb hr hts hown hlocks hin hml hZ hl
  have hP : hq_P cs G (fun _ => false) V V := hq_P.rf hI
  have hl : lv_has ls 1 [(0, .int (k))] := hl
  have hb_k := hq_rng k
  refine lv_iload_n hx hb dX13_isFigure_0 rfl (lv_at hl 0 rfl) ?_
  refine lv_bipush (v := 48) hx hb dX13_isFigure_1 (by decide) ?_
  refine lv_icmp_lt (tgt := 16) hx hb dX13_isFigure_3 (by decide) (fun c1 => ?_) (fun c1 => ?_)
  · have c1 : (k).toInt < (48 : Int) := hq_lti.mp c1
    refine lv_iconst (v := 0) hx hb dX13_isFigure_16 (by decide) ?_
    exact hp_zret hx hb hr rfl hlocks hZ ⟨rfl, hP, (Or.inl (by decide))⟩ dX13_isFigure_17
  · have c1 : ¬ (k).toInt < (48 : Int) := fun h9 => c1 (hq_lti.mpr h9)
    refine lv_iload_n hx hb dX13_isFigure_6 rfl (lv_at hl 0 rfl) ?_
    refine lv_bipush (v := 57) hx hb dX13_isFigure_7 (by decide) ?_
    refine lv_icmp_gt (tgt := 16) hx hb dX13_isFigure_9 (by decide) (fun c2 => ?_) (fun c2 => ?_)
    · have c2 : (57 : Int) < (k).toInt := hq_lti.mp c2
      refine lv_iconst (v := 0) hx hb dX13_isFigure_16 (by decide) ?_
      exact hp_zret hx hb hr rfl hlocks hZ ⟨rfl, hP, (Or.inl (by decide))⟩ dX13_isFigure_17
    · have c2 : ¬ (57 : Int) < (k).toInt := fun h9 => c2 (hq_lti.mpr h9)
      refine lv_iconst (v := 1) hx hb dX13_isFigure_12 (by decide) ?_
      refine lv_goto (tgt := 17) hx hb dX13_isFigure_13 (by decide) ?_
      exact hp_zret hx hb hr rfl hlocks hZ ⟨rfl, hP, (Or.inr ⟨by decide, by omega, by omega⟩)⟩ dX13_isFigure_17

set_option maxHeartbeats 4000000 in
set_option maxRecDepth 100000 in
theorem t_X13_isSmall (l : Launch) (D : va_G) (cs : Nat → ClassId) (B : Nat) (G : hq_G) (V : hp_V) (n : Nat) (hI : hq_I cs G V) (k : Int32) : hp_M l yX13_isSmall cX13_isSmall 1 (some .boolean) ({ frames := 1, cells := 0, slots := 0, locals := 21 }) D cs B V n [.int (k)] (hp_QI D cs B (fun r V' n' => n = n' ∧ hq_P cs G (fun _ => false) V V' ∧ (r.toInt = 0 ∨ (r.toInt = 1 ∧ 97 ≤ k.toInt ∧ k.toInt ≤ 122)))) 0 0 := by
  refine hp_walk (R0 := RX13) (by decide) rfl ?_ (Nat.le_of_ble_eq_true rfl)
  intro p e s m below meth c ls hx hb hr hts hown hlocks hin hml hZ hl
  have hP : hq_P cs G (fun _ => false) V V := hq_P.rf hI
  have hl : lv_has ls 1 [(0, .int (k))] := hl
  have hb_k := hq_rng k
  refine lv_iload_n hx hb dX13_isSmall_0 rfl (lv_at hl 0 rfl) ?_
  refine lv_bipush (v := 97) hx hb dX13_isSmall_1 (by decide) ?_
  refine lv_icmp_lt (tgt := 16) hx hb dX13_isSmall_3 (by decide) (fun c1 => ?_) (fun c1 => ?_)
  · have c1 : (k).toInt < (97 : Int) := hq_lti.mp c1
    refine lv_iconst (v := 0) hx hb dX13_isSmall_16 (by decide) ?_
    exact hp_zret hx hb hr rfl hlocks hZ ⟨rfl, hP, (Or.inl (by decide))⟩ dX13_isSmall_17
  · have c1 : ¬ (k).toInt < (97 : Int) := fun h9 => c1 (hq_lti.mpr h9)
    refine lv_iload_n hx hb dX13_isSmall_6 rfl (lv_at hl 0 rfl) ?_
    refine lv_bipush (v := 122) hx hb dX13_isSmall_7 (by decide) ?_
    refine lv_icmp_gt (tgt := 16) hx hb dX13_isSmall_9 (by decide) (fun c2 => ?_) (fun c2 => ?_)
    · have c2 : (122 : Int) < (k).toInt := hq_lti.mp c2
      refine lv_iconst (v := 0) hx hb dX13_isSmall_16 (by decide) ?_
      exact hp_zret hx hb hr rfl hlocks hZ ⟨rfl, hP, (Or.inl (by decide))⟩ dX13_isSmall_17
    · have c2 : ¬ (122 : Int) < (k).toInt := fun h9 => c2 (hq_lti.mpr h9)
      refine lv_iconst (v := 1) hx hb dX13_isSmall_12 (by decide) ?_
      refine lv_goto (tgt := 17) hx hb dX13_isSmall_13 (by decide) ?_
      exact hp_zret hx hb hr rfl hlocks hZ ⟨rfl, hP, (Or.inr ⟨by decide, by omega, by omega⟩)⟩ dX13_isSmall_17

set_option maxHeartbeats 4000000 in
set_option maxRecDepth 100000 in
theorem t_X13_wrong (l : Launch) (D : va_G) (cs : Nat → ClassId) (B : Nat) (G : hq_G) (V : hp_V) (n : Nat) (hI : hq_I cs G V) (q : Nat) (hR : hq_RT G q) (mo : Nat) (h_mo : G mo = some (24, 0, 0, 0)) (k : Int32) {m_tp m_sz m_fr m_bh m_hd m_ft m_fa m_le m_fo m_as m_fd m_bc m_bg m_bs m_be m_b0 m_b1 m_cm m_hc : Int32} (ho_mo : V mo = some (.inr (13, hm_o q (m_tp) (m_sz) (m_fr) (m_bh) (m_hd) (m_ft) (m_fa) (m_le) (m_fo) (m_as) (m_fd) (m_bc) (m_bg) (m_bs) (m_be) (m_b0) (m_b1) (m_cm) (m_hc)))) (hi_mo0 : 0 ≤ m_tp.toInt ∧ m_tp.toInt ≤ 4000) (hi_mo1 : 0 ≤ m_sz.toInt ∧ m_sz.toInt ≤ 4000) (hi_mo2 : 0 ≤ m_le.toInt ∧ m_le.toInt ≤ 276) (hi_mo3 : 0 ≤ m_fo.toInt ∧ m_fo.toInt ≤ 4) (hi_mo4 : 0 ≤ m_as.toInt ∧ m_as.toInt ≤ 4000) (hi_mo5 : 0 ≤ m_fd.toInt ∧ m_fd.toInt ≤ 900) (hi_mo6 : 0 ≤ m_cm.toInt ∧ m_cm.toInt ≤ 2) (hi_mo7 : 0 ≤ m_hc.toInt ∧ m_hc.toInt ≤ 1) : hp_M l yX13_wrong cX13_wrong 2 (some (.object "VerbSchoolModel$Stop")) ({ frames := 1, cells := 0, slots := 0, locals := 21 }) D cs B V n [.ref (mo), .int (k)] (hp_QR D cs B (fun r V' n' => n = n' ∧ hq_P cs G (fun g => g.1 == 1) V V' ∧ (∃ (m_ft1 : Int32) (m_fa1 : Int32), V' mo = some (.inr (13, hm_o q (m_tp) (m_sz) (m_fr) (m_bh) (m_hd) (m_ft1) (m_fa1) (m_le) (m_fo) (m_as) (m_fd) (m_bc) (m_bg) (m_bs) (m_be) (m_b0) (m_b1) (m_cm) (m_hc)))) ∧ (r = some (q + 19)))) 0 0 := by
  refine hp_walk (R0 := RX13) (by decide) rfl ?_ (Nat.le_of_ble_eq_true rfl)
  intro p e s m below meth c ls hx hb hr hts hown hlocks hin hml hZ hl
  have hP : hq_P cs G (fun g => g.1 == 1) V V := hq_P.rf hI
  have hl : lv_has ls 2 [(0, .ref (mo)), (1, .int (k))] := hl
  have hb_k := hq_rng k
  have hb_m_tp := hq_rng m_tp
  have hb_m_sz := hq_rng m_sz
  have hb_m_fr := hq_rng m_fr
  have hb_m_bh := hq_rng m_bh
  have hb_m_hd := hq_rng m_hd
  have hb_m_ft := hq_rng m_ft
  have hb_m_fa := hq_rng m_fa
  have hb_m_le := hq_rng m_le
  have hb_m_fo := hq_rng m_fo
  have hb_m_as := hq_rng m_as
  have hb_m_fd := hq_rng m_fd
  have hb_m_bc := hq_rng m_bc
  have hb_m_bg := hq_rng m_bg
  have hb_m_bs := hq_rng m_bs
  have hb_m_be := hq_rng m_be
  have hb_m_b0 := hq_rng m_b0
  have hb_m_b1 := hq_rng m_b1
  have hb_m_cm := hq_rng m_cm
  have hb_m_hc := hq_rng m_hc
  refine lv_aload_n hx hb dX13_wrong_0 rfl (lv_at hl 0 rfl) ?_
  refine lv_iload_n hx hb dX13_wrong_1 rfl (lv_at hl 1 rfl) ?_
  refine hp_put hx hb hts hown hZ ho_mo fp_X13_56 rfl rfl (Nat.le_of_ble_eq_true rfl) dX13_wrong_2 (fun V1 _ _ e2 o3 hZ => ?_)
  have e2 : V1 (mo) = some (.inr (13, hm_o q (m_tp) (m_sz) (m_fr) (m_bh) (m_hd) (k) (m_fa) (m_le) (m_fo) (m_as) (m_fd) (m_bc) (m_bg) (m_bs) (m_be) (m_b0) (m_b1) (m_cm) (m_hc))) := e2
  have hP := hP.put h_mo e2 o3 (trivial) rfl
  refine lv_aload_n hx hb dX13_wrong_5 rfl (lv_at hl 0 rfl) ?_
  refine lv_aload_n hx hb dX13_wrong_6 rfl (lv_at hl 0 rfl) ?_
  refine hp_get (v := .int (m_fr)) hx hb hts hown hZ e2 fl_X13_60 rfl dX13_wrong_7 ?_
  refine hp_put hx hb hts hown hZ e2 fp_X13_63 rfl rfl (Nat.le_of_ble_eq_true rfl) dX13_wrong_10 (fun V4 _ _ e5 o6 hZ => ?_)
  have e5 : V4 (mo) = some (.inr (13, hm_o q (m_tp) (m_sz) (m_fr) (m_bh) (m_hd) (k) (m_fr) (m_le) (m_fo) (m_as) (m_fd) (m_bc) (m_bg) (m_bs) (m_be) (m_b0) (m_b1) (m_cm) (m_hc))) := e5
  have hP := hP.put h_mo e5 o6 (trivial) rfl
  refine lv_aload_n hx hb dX13_wrong_13 rfl (lv_at hl 0 rfl) ?_
  refine hp_get (v := .ref (q + 19)) hx hb hts hown hZ e5 fl_X13_66 rfl dX13_wrong_14 ?_
  exact hp_aret (r := some (q + 19)) hx hb hr (Or.inl ⟨_, rfl⟩) hlocks hZ ⟨rfl, hP, ⟨k, m_fr, e5⟩, rfl⟩ dX13_wrong_17

set_option maxHeartbeats 4000000 in
set_option maxRecDepth 100000 in
theorem t_X13_byteAt (l : Launch) (D : va_G) (cs : Nat → ClassId) (B : Nat) (G : hq_G) (V : hp_V) (n : Nat) (hI : hq_I cs G V) (q : Nat) (hR : hq_RT G q) (mo : Nat) (h_mo : G mo = some (24, 0, 0, 0)) (k : Int32) {m_tp m_sz m_fr m_bh m_hd m_ft m_fa m_le m_fo m_as m_fd m_bc m_bg m_bs m_be m_b0 m_b1 m_cm m_hc : Int32} (ho_mo : V mo = some (.inr (13, hm_o q (m_tp) (m_sz) (m_fr) (m_bh) (m_hd) (m_ft) (m_fa) (m_le) (m_fo) (m_as) (m_fd) (m_bc) (m_bg) (m_bs) (m_be) (m_b0) (m_b1) (m_cm) (m_hc)))) (hi_mo0 : 0 ≤ m_tp.toInt ∧ m_tp.toInt ≤ 4000) (hi_mo1 : 0 ≤ m_sz.toInt ∧ m_sz.toInt ≤ 4000) (hi_mo2 : 0 ≤ m_le.toInt ∧ m_le.toInt ≤ 276) (hi_mo3 : 0 ≤ m_fo.toInt ∧ m_fo.toInt ≤ 4) (hi_mo4 : 0 ≤ m_as.toInt ∧ m_as.toInt ≤ 4000) (hi_mo5 : 0 ≤ m_fd.toInt ∧ m_fd.toInt ≤ 900) (hi_mo6 : 0 ≤ m_cm.toInt ∧ m_cm.toInt ≤ 2) (hi_mo7 : 0 ≤ m_hc.toInt ∧ m_hc.toInt ≤ 1) (hk0 : 0 ≤ k.toInt) : hp_M l yX13_byteAt cX13_byteAt 2 (some .int) ({ frames := 1, cells := 0, slots := 0, locals := 21 }) D cs B V n [.ref (mo), .int (k)] (hp_QI D cs B (fun r V' n' => n = n' ∧ hq_P cs G (fun _ => false) V V' ∧ (V' mo = some (.inr (13, hm_o q (m_tp) (m_sz) (m_fr) (m_bh) (m_hd) (m_ft) (m_fa) (m_le) (m_fo) (m_as) (m_fd) (m_bc) (m_bg) (m_bs) (m_be) (m_b0) (m_b1) (m_cm) (m_hc)))) ∧ (r.toInt = 0 ∨ k.toInt < m_sz.toInt))) 0 0 := by
  refine hp_walk (R0 := RX13) (by decide) rfl ?_ (Nat.le_of_ble_eq_true rfl)
  intro p e s m below meth c ls hx hb hr hts hown hlocks hin hml hZ hl
  have hP : hq_P cs G (fun _ => false) V V := hq_P.rf hI
  have hl : lv_has ls 2 [(0, .ref (mo)), (1, .int (k))] := hl
  have hb_k := hq_rng k
  have hb_m_tp := hq_rng m_tp
  have hb_m_sz := hq_rng m_sz
  have hb_m_fr := hq_rng m_fr
  have hb_m_bh := hq_rng m_bh
  have hb_m_hd := hq_rng m_hd
  have hb_m_ft := hq_rng m_ft
  have hb_m_fa := hq_rng m_fa
  have hb_m_le := hq_rng m_le
  have hb_m_fo := hq_rng m_fo
  have hb_m_as := hq_rng m_as
  have hb_m_fd := hq_rng m_fd
  have hb_m_bc := hq_rng m_bc
  have hb_m_bg := hq_rng m_bg
  have hb_m_bs := hq_rng m_bs
  have hb_m_be := hq_rng m_be
  have hb_m_b0 := hq_rng m_b0
  have hb_m_b1 := hq_rng m_b1
  have hb_m_cm := hq_rng m_cm
  have hb_m_hc := hq_rng m_hc
  refine lv_iload_n hx hb dX13_byteAt_0 rfl (lv_at hl 1 rfl) ?_
  refine lv_aload_n hx hb dX13_byteAt_1 rfl (lv_at hl 0 rfl) ?_
  refine hp_get (v := .int (m_sz)) hx hb hts hown hZ ho_mo fl_X13_70 rfl dX13_byteAt_2 ?_
  refine lv_icmp_ge (tgt := 21) hx hb dX13_byteAt_5 (by decide) (fun c1 => ?_) (fun c1 => ?_)
  · have c1 : (m_sz).toInt ≤ (k).toInt := hq_lei.mp c1
    refine lv_iconst (v := 0) hx hb dX13_byteAt_21 (by decide) ?_
    exact hp_iret hx hb hr hlocks hZ ⟨rfl, hP, ho_mo, (Or.inl (by decide))⟩ dX13_byteAt_22
  · have c1 : ¬ (m_sz).toInt ≤ (k).toInt := fun h9 => c1 (hq_lei.mpr h9)
    refine lv_aload_n hx hb dX13_byteAt_8 rfl (lv_at hl 0 rfl) ?_
    refine hp_get (v := .ref (q + 20)) hx hb hts hown hZ ho_mo fl_X13_73 rfl dX13_byteAt_9 ?_
    refine lv_iload_n hx hb dX13_byteAt_12 rfl (lv_at hl 1 rfl) ?_
    obtain ⟨hN4, g3, eV2⟩ := hq_o20 hP.1 (hr_20 hR)
    refine hp_bald hx hb hZ eV2 (hq_in (by omega) (by omega)) dX13_byteAt_13 ?_
    refine lv_topi (fun y6 ey7 => ?_)
    have b8 := hq_rng y6
    refine lv_sipush (v := 255) hx hb dX13_byteAt_14 (by decide) ?_
    refine lv_iand hx hb dX13_byteAt_17 ?_
    refine lv_topi (fun y9 ey10 => ?_)
    have b11 := hq_rng y9
    refine lv_goto (tgt := 22) hx hb dX13_byteAt_18 (by decide) ?_
    exact hp_iret hx hb hr hlocks hZ ⟨rfl, hP, ho_mo, (by omega)⟩ dX13_byteAt_22

set_option maxHeartbeats 4000000 in
set_option maxRecDepth 100000 in
theorem t_X13_scan (l : Launch) (D : va_G) (cs : Nat → ClassId) (B : Nat) (G : hq_G) (V : hp_V) (n : Nat) (hI : hq_I cs G V) (q : Nat) (hR : hq_RT G q) (mo : Nat) (h_mo : G mo = some (24, 0, 0, 0)) {m_tp m_sz m_fr m_bh m_hd m_ft m_fa m_le m_fo m_as m_fd m_bc m_bg m_bs m_be m_b0 m_b1 m_cm m_hc : Int32} (ho_mo : V mo = some (.inr (13, hm_o q (m_tp) (m_sz) (m_fr) (m_bh) (m_hd) (m_ft) (m_fa) (m_le) (m_fo) (m_as) (m_fd) (m_bc) (m_bg) (m_bs) (m_be) (m_b0) (m_b1) (m_cm) (m_hc)))) (hi_mo0 : 0 ≤ m_tp.toInt ∧ m_tp.toInt ≤ 4000) (hi_mo1 : 0 ≤ m_sz.toInt ∧ m_sz.toInt ≤ 4000) (hi_mo2 : 0 ≤ m_le.toInt ∧ m_le.toInt ≤ 276) (hi_mo3 : 0 ≤ m_fo.toInt ∧ m_fo.toInt ≤ 4) (hi_mo4 : 0 ≤ m_as.toInt ∧ m_as.toInt ≤ 4000) (hi_mo5 : 0 ≤ m_fd.toInt ∧ m_fd.toInt ≤ 900) (hi_mo6 : 0 ≤ m_cm.toInt ∧ m_cm.toInt ≤ 2) (hi_mo7 : 0 ≤ m_hc.toInt ∧ m_hc.toInt ≤ 1) (hs0 : 0 ≤ m_bh.toInt) (hs1 : m_bh.toInt ≤ m_sz.toInt) : hp_M l yX13_scan cX13_scan 3 none ({ frames := 2, cells := 0, slots := 0, locals := 42 }) D cs B V n [.ref (mo)] (hp_QV D cs B (fun V' n' => n = n' ∧ hq_P cs G (fun g => g.1 == 1) V V' ∧ (∃ (m_fr1 : Int32) (m_bh1 : Int32) (m_hd1 : Int32), V' mo = some (.inr (13, hm_o q (m_tp) (m_sz) (m_fr1) (m_bh1) (m_hd1) (m_ft) (m_fa) (m_le) (m_fo) (m_as) (m_fd) (m_bc) (m_bg) (m_bs) (m_be) (m_b0) (m_b1) (m_cm) (m_hc))) ∧ (m_bh.toInt ≤ m_bh1.toInt) ∧ (hm_Up m_bh m_bh1 m_hd1) ∧ (hm_SC m_sz m_fr1 m_bh1 m_hd1)))) 0 0 := by
  refine hp_walk (R0 := RX13) (by decide) rfl ?_ (Nat.le_of_ble_eq_true rfl)
  intro p e s m below meth c ls hx hb hr hts hown hlocks hin hml hZ hl
  have hP : hq_P cs G (fun g => g.1 == 1) V V := hq_P.rf hI
  have hl : lv_has ls 3 [(0, .ref (mo))] := hl
  have hb_m_tp := hq_rng m_tp
  have hb_m_sz := hq_rng m_sz
  have hb_m_fr := hq_rng m_fr
  have hb_m_bh := hq_rng m_bh
  have hb_m_hd := hq_rng m_hd
  have hb_m_ft := hq_rng m_ft
  have hb_m_fa := hq_rng m_fa
  have hb_m_le := hq_rng m_le
  have hb_m_fo := hq_rng m_fo
  have hb_m_as := hq_rng m_as
  have hb_m_fd := hq_rng m_fd
  have hb_m_bc := hq_rng m_bc
  have hb_m_bg := hq_rng m_bg
  have hb_m_bs := hq_rng m_bs
  have hb_m_be := hq_rng m_be
  have hb_m_b0 := hq_rng m_b0
  have hb_m_b1 := hq_rng m_b1
  have hb_m_cm := hq_rng m_cm
  have hb_m_hc := hq_rng m_hc
  suffices lp0 : ∀ (k9 : Nat) (V9 : hp_V) (H9 : Heap) (locs9 : List Loc) (ls : Array Slot)  (bh9 : Int32), (5000 - bh9.toInt).toNat = k9 → hp_Z D cs B s V9 H9 n locs9 → hq_P cs G (fun g => g.1 == 1) V V9 → V9 (mo) = some (.inr (13, hm_o q (m_tp) (m_sz) (m_fr) (bh9) (m_hd) (m_ft) (m_fa) (m_le) (m_fo) (m_as) (m_fd) (m_bc) (m_bg) (m_bs) (m_be) (m_b0) (m_b1) (m_cm) (m_hc))) → 0 ≤ bh9.toInt → bh9.toInt ≤ m_sz.toInt → m_bh.toInt ≤ bh9.toInt → lv_has ls 3 [(0, .ref (mo))] → W p l e ({ frames := 2, cells := 0, slots := 0, locals := 42 }) s m ([.ref (mo)] : List Value).toArray below meth c H9 locs9 0 0 (MQ below (hp_QV D cs B (fun V' n' => n = n' ∧ hq_P cs G (fun g => g.1 == 1) V V' ∧ (∃ (m_fr1 : Int32) (m_bh1 : Int32) (m_hd1 : Int32), V' mo = some (.inr (13, hm_o q (m_tp) (m_sz) (m_fr1) (m_bh1) (m_hd1) (m_ft) (m_fa) (m_le) (m_fo) (m_as) (m_fd) (m_bc) (m_bg) (m_bs) (m_be) (m_b0) (m_b1) (m_cm) (m_hc))) ∧ (m_bh.toInt ≤ m_bh1.toInt) ∧ (hm_Up m_bh m_bh1 m_hd1) ∧ (hm_SC m_sz m_fr1 m_bh1 m_hd1)))) ([.ref (mo)] : List Value).toArray s 0 0 (hp_F B)) (F0 m 0 ls []) from lp0 _ _ _ _ ls  (m_bh) rfl hZ hP ho_mo (by omega) (by omega) (by omega) (lv_sub hl [0] rfl)
  intro k9
  induction k9 using Nat.strongRecOn with
  | _ k9 ih0 =>
    intro V9 H9 locs9 ls  bh9 hk0 hZ hP ho1 hv2 hv3 hv4 hl
    have hb_bh9 := hq_rng bh9
    have hP_0 := hP
    refine lv_aload_n hx hb dX13_scan_0 rfl (lv_at hl 0 rfl) ?_
    refine hp_get (v := .int (bh9)) hx hb hts hown hZ ho1 fl_X13_76 rfl dX13_scan_1 ?_
    refine lv_aload_n hx hb dX13_scan_4 rfl (lv_at hl 0 rfl) ?_
    refine hp_get (v := .int (m_sz)) hx hb hts hown hZ ho1 fl_X13_70 rfl dX13_scan_5 ?_
    refine lv_icmp_ge (tgt := 52) hx hb dX13_scan_8 (by decide) (fun c5 => ?_) (fun c5 => ?_)
    · have c5 : (m_sz).toInt ≤ (bh9).toInt := hq_lei.mp c5
      refine lv_aload_n hx hb dX13_scan_52 rfl (lv_at hl 0 rfl) ?_
      refine lv_aload_n hx hb dX13_scan_53 rfl (lv_at hl 0 rfl) ?_
      refine hp_get (v := .int (bh9)) hx hb hts hown hZ ho1 fl_X13_76 rfl dX13_scan_54 ?_
      refine hp_put hx hb hts hown hZ ho1 fp_X13_60 rfl rfl (Nat.le_of_ble_eq_true rfl) dX13_scan_57 (fun V6 _ _ e7 o8 hZ => ?_)
      have e7 : V6 (mo) = some (.inr (13, hm_o q (m_tp) (m_sz) (bh9) (bh9) (m_hd) (m_ft) (m_fa) (m_le) (m_fo) (m_as) (m_fd) (m_bc) (m_bg) (m_bs) (m_be) (m_b0) (m_b1) (m_cm) (m_hc))) := e7
      have hP := hP.put h_mo e7 o8 (trivial) rfl
      refine lv_aload_n hx hb dX13_scan_60 rfl (lv_at hl 0 rfl) ?_
      refine lv_aload_n hx hb dX13_scan_61 rfl (lv_at hl 0 rfl) ?_
      refine hp_get (v := .int (bh9)) hx hb hts hown hZ e7 fl_X13_60 rfl dX13_scan_62 ?_
      refine hp_calli (hp_runV (As := [.int (bh9)]) (rest := []) hx hb hml hown hts (t_X13_byteAt l D cs B G  V6 n hP.1 q hR (mo) h_mo (bh9) e7  (by omega) (by omega) (by omega) (by omega) (by omega) (by omega) (by omega) (by omega) (by omega)) hZ e7 cv_X13_79 rfl rfl ⟨Nat.le_of_ble_eq_true rfl, Nat.le_of_ble_eq_true rfl⟩ rfl hl.1 rfl (Nat.le_of_ble_eq_true rfl) dX13_scan_65 ⟨(Nat.le_of_ble_eq_true rfl), (Nat.le_of_ble_eq_true rfl)⟩) hZ (fun r12 V9 n10 _ _ hw11 hZ => ?_)
      obtain ⟨rfl, hq13, ho15, hr14⟩ := hw11
      have hP := hP.trans hq13 (fun _ _ => rfl)
      have b16 := hq_rng r12
      refine lv_istore_n (lv' := [(1, .int (r12)), (0, .ref (mo))]) hx hb dX13_scan_68 rfl hl (by decide) rfl (fun ls hl => ?_)
      refine lv_aload_n hx hb dX13_scan_69 rfl (lv_at hl 1 rfl) ?_
      refine hp_get (v := .int (bh9)) hx hb hts hown hZ ho15 fl_X13_60 rfl dX13_scan_70 ?_
      refine lv_aload_n hx hb dX13_scan_73 rfl (lv_at hl 1 rfl) ?_
      refine hp_get (v := .int (m_sz)) hx hb hts hown hZ ho15 fl_X13_70 rfl dX13_scan_74 ?_
      refine lv_icmp_ne (tgt := 86) hx hb dX13_scan_77 (by decide) (fun c17 => ?_) (fun c17 => ?_)
      · have c17 : ¬ (bh9).toInt = (m_sz).toInt := fun h9 => c17 (hq_eqi.mpr h9)
        refine lv_aload_n hx hb dX13_scan_86 rfl (lv_at hl 1 rfl) ?_
        refine lv_dup hx hb dX13_scan_87 rfl ?_
        refine hp_get (v := .int (bh9)) hx hb hts hown hZ ho15 fl_X13_76 rfl dX13_scan_88 ?_
        refine lv_iconst (v := 1) hx hb dX13_scan_91 (by decide) ?_
        refine lv_iadd hx hb dX13_scan_92 ?_
        refine lv_topi (fun y18 ey19 => ?_)
        obtain ⟨k20, hk21, b22, b23⟩ := hq_add (bh9) (1)
        rw [← ey19] at hk21 b22 b23
        have hk21 : (y18).toInt = (bh9).toInt + (1 : Int) + k20 * 4294967296 := hk21
        obtain rfl : k20 = 0 := by omega
        refine hp_put hx hb hts hown hZ ho15 fp_X13_76 rfl rfl (Nat.le_of_ble_eq_true rfl) dX13_scan_93 (fun V24 _ _ e25 o26 hZ => ?_)
        have e25 : V24 (mo) = some (.inr (13, hm_o q (m_tp) (m_sz) (bh9) (y18) (m_hd) (m_ft) (m_fa) (m_le) (m_fo) (m_as) (m_fd) (m_bc) (m_bg) (m_bs) (m_be) (m_b0) (m_b1) (m_cm) (m_hc))) := e25
        have hP := hP.put h_mo e25 o26 (trivial) rfl
        refine lv_iload_n hx hb dX13_scan_96 rfl (lv_at hl 0 rfl) ?_
        refine hp_calli (hp_runS (As := [.int (r12)]) (rest := []) hx hb hml hown hts (t_X13_isSmall l D cs B G  V24 n hP.1  (r12) ) hZ cv_X13_86 rfl rfl ⟨Nat.le_of_ble_eq_true rfl, Nat.le_of_ble_eq_true rfl⟩ rfl hl.1 rfl (Nat.le_of_ble_eq_true rfl) dX13_scan_97 ⟨(Nat.le_of_ble_eq_true rfl), (Nat.le_of_ble_eq_true rfl)⟩) hZ (fun r30 V27 n28 _ _ hw29 hZ => ?_)
        obtain ⟨rfl, hq31, hr32⟩ := hw29
        have hP := hP.trans hq31 (fun _ _ => rfl)
        have b33 := hq_rng r30
        refine lv_if_eq (tgt := 156) hx hb dX13_scan_100 (by decide) (fun c34 => ?_) (fun c34 => ?_)
        · have c34 : (r30).toInt = (0 : Int) := hq_eqi.mp c34
          refine lv_iload_n hx hb dX13_scan_156 rfl (lv_at hl 0 rfl) ?_
          refine lv_bipush (v := 39) hx hb dX13_scan_157 (by decide) ?_
          refine lv_icmp_ne (tgt := 248) hx hb dX13_scan_159 (by decide) (fun c35 => ?_) (fun c35 => ?_)
          · have c35 : ¬ (r12).toInt = (39 : Int) := fun h9 => c35 (hq_eqi.mpr h9)
            refine lv_iload_n hx hb dX13_scan_248 rfl (lv_at hl 0 rfl) ?_
            refine hp_calli (hp_runS (As := [.int (r12)]) (rest := []) hx hb hml hown hts (t_X13_isFigure l D cs B G  V27 n hP.1  (r12) ) hZ cv_X13_90 rfl rfl ⟨Nat.le_of_ble_eq_true rfl, Nat.le_of_ble_eq_true rfl⟩ rfl hl.1 rfl (Nat.le_of_ble_eq_true rfl) dX13_scan_249 ⟨(Nat.le_of_ble_eq_true rfl), (Nat.le_of_ble_eq_true rfl)⟩) hZ (fun r39 V36 n37 _ _ hw38 hZ => ?_)
            obtain ⟨rfl, hq40, hr41⟩ := hw38
            have hP := hP.trans hq40 (fun _ _ => rfl)
            have b42 := hq_rng r39
            refine lv_istore_n (lv' := [(2, .int (r39)), (1, .int (r12)), (0, .ref (mo))]) hx hb dX13_scan_252 rfl hl (by decide) rfl (fun ls hl => ?_)
            have fx43 : V36 (mo) = some (.inr (13, hm_o q (m_tp) (m_sz) (bh9) (y18) (m_hd) (m_ft) (m_fa) (m_le) (m_fo) (m_as) (m_fd) (m_bc) (m_bg) (m_bs) (m_be) (m_b0) (m_b1) (m_cm) (m_hc))) := (hq40.2 (mo) _ h_mo rfl).trans ((hq31.2 (mo) _ h_mo rfl).trans (e25))
            suffices lp253 : ∀ (k9 : Nat) (V9 : hp_V) (H9 : Heap) (locs9 : List Loc) (ls : Array Slot)  (bh8 : Int32), (5000 - bh8.toInt).toNat = k9 → hp_Z D cs B s V9 H9 n locs9 → hq_P cs G (fun g => g.1 == 1) V V9 → V9 (mo) = some (.inr (13, hm_o q (m_tp) (m_sz) (bh9) (bh8) (m_hd) (m_ft) (m_fa) (m_le) (m_fo) (m_as) (m_fd) (m_bc) (m_bg) (m_bs) (m_be) (m_b0) (m_b1) (m_cm) (m_hc))) → bh9.toInt + 1 ≤ bh8.toInt → bh8.toInt ≤ m_sz.toInt → lv_has ls 3 [(2, .int (r39)), (1, .int (r12)), (0, .ref (mo))] → W p l e ({ frames := 2, cells := 0, slots := 0, locals := 42 }) s m ([.ref (mo)] : List Value).toArray below meth c H9 locs9 0 0 (MQ below (hp_QV D cs B (fun V' n' => n = n' ∧ hq_P cs G (fun g => g.1 == 1) V V' ∧ (∃ (m_fr1 : Int32) (m_bh1 : Int32) (m_hd1 : Int32), V' mo = some (.inr (13, hm_o q (m_tp) (m_sz) (m_fr1) (m_bh1) (m_hd1) (m_ft) (m_fa) (m_le) (m_fo) (m_as) (m_fd) (m_bc) (m_bg) (m_bs) (m_be) (m_b0) (m_b1) (m_cm) (m_hc))) ∧ (m_bh.toInt ≤ m_bh1.toInt) ∧ (hm_Up m_bh m_bh1 m_hd1) ∧ (hm_SC m_sz m_fr1 m_bh1 m_hd1)))) ([.ref (mo)] : List Value).toArray s 0 0 (hp_F B)) (F0 m 253 ls []) from lp253 _ _ _ _ ls  (y18) rfl hZ hP fx43 (by omega) (by omega) (lv_sub hl [0, 1, 2] rfl)
            intro k9
            induction k9 using Nat.strongRecOn with
            | _ k9 ih253 =>
              intro V9 H9 locs9 ls  bh8 hk253 hZ hP ho44 hv45 hv46 hl
              have hb_bh8 := hq_rng bh8
              have hP_253 := hP
              refine lv_iload_n hx hb dX13_scan_253 rfl (lv_at hl 0 rfl) ?_
              refine lv_if_eq (tgt := 284) hx hb dX13_scan_254 (by decide) (fun c47 => ?_) (fun c47 => ?_)
              · have c47 : (r39).toInt = (0 : Int) := hq_eqi.mp c47
                refine lv_aload_n hx hb dX13_scan_284 rfl (lv_at hl 2 rfl) ?_
                refine lv_iload_n hx hb dX13_scan_285 rfl (lv_at hl 0 rfl) ?_
                refine lv_if_eq (tgt := 306) hx hb dX13_scan_286 (by decide) (fun c48 => ?_) (fun c48 => ?_)
                · have c48 : (r39).toInt = (0 : Int) := hq_eqi.mp c48
                  refine lv_iload_n hx hb dX13_scan_306 rfl (lv_at hl 1 rfl) ?_
                  refine lv_bipush (v := 59) hx hb dX13_scan_307 (by decide) ?_
                  refine lv_icmp_ne (tgt := 316) hx hb dX13_scan_309 (by decide) (fun c49 => ?_) (fun c49 => ?_)
                  · have c49 : ¬ (r12).toInt = (59 : Int) := fun h9 => c49 (hq_eqi.mpr h9)
                    refine lv_iconst (v := 5) hx hb dX13_scan_316 (by decide) ?_
                    refine hp_put hx hb hts hown hZ ho44 fp_X13_83 rfl rfl (Nat.le_of_ble_eq_true rfl) dX13_scan_317 (fun V50 _ _ e51 o52 hZ => ?_)
                    have e51 : V50 (mo) = some (.inr (13, hm_o q (m_tp) (m_sz) (bh9) (bh8) (5) (m_ft) (m_fa) (m_le) (m_fo) (m_as) (m_fd) (m_bc) (m_bg) (m_bs) (m_be) (m_b0) (m_b1) (m_cm) (m_hc))) := e51
                    have hP := hP.put h_mo e51 o52 (trivial) rfl
                    have hl53 : (5 : Int32).toInt = 5 := by decide
                    exact hp_vret hx hb hr hlocks hZ ⟨rfl, hP, ⟨bh9, bh8, 5, e51, by omega, show _ ∨ _ by omega, ⟨by omega, by omega, by omega, by omega, by omega, by omega, by omega⟩⟩⟩ dX13_scan_320
                  · have c49 : (r12).toInt = (59 : Int) := hq_eqi.mp c49
                    refine lv_iconst (v := 4) hx hb dX13_scan_312 (by decide) ?_
                    refine lv_goto (tgt := 317) hx hb dX13_scan_313 (by decide) ?_
                    refine hp_put hx hb hts hown hZ ho44 fp_X13_83 rfl rfl (Nat.le_of_ble_eq_true rfl) dX13_scan_317 (fun V54 _ _ e55 o56 hZ => ?_)
                    have e55 : V54 (mo) = some (.inr (13, hm_o q (m_tp) (m_sz) (bh9) (bh8) (4) (m_ft) (m_fa) (m_le) (m_fo) (m_as) (m_fd) (m_bc) (m_bg) (m_bs) (m_be) (m_b0) (m_b1) (m_cm) (m_hc))) := e55
                    have hP := hP.put h_mo e55 o56 (trivial) rfl
                    have hl57 : (4 : Int32).toInt = 4 := by decide
                    exact hp_vret hx hb hr hlocks hZ ⟨rfl, hP, ⟨bh9, bh8, 4, e55, by omega, show _ ∨ _ by omega, ⟨by omega, by omega, by omega, by omega, by omega, by omega, by omega⟩⟩⟩ dX13_scan_320
                · have c48 : ¬ (r39).toInt = (0 : Int) := fun h9 => c48 (hq_eqi.mpr h9)
                  refine lv_aload_n hx hb dX13_scan_289 rfl (lv_at hl 2 rfl) ?_
                  refine hp_get (v := .int (bh8)) hx hb hts hown hZ ho44 fl_X13_76 rfl dX13_scan_290 ?_
                  refine lv_aload_n hx hb dX13_scan_293 rfl (lv_at hl 2 rfl) ?_
                  refine hp_get (v := .int (bh9)) hx hb hts hown hZ ho44 fl_X13_60 rfl dX13_scan_294 ?_
                  refine lv_isub hx hb dX13_scan_297 ?_
                  refine lv_topi (fun y58 ey59 => ?_)
                  obtain ⟨k60, hk61, b62, b63⟩ := hq_sub (bh8) (bh9)
                  rw [← ey59] at hk61 b62 b63
                  have hk61 : (y58).toInt = (bh8).toInt - (bh9).toInt + k60 * 4294967296 := hk61
                  obtain rfl : k60 = 0 := by omega
                  refine lv_iconst (v := 1) hx hb dX13_scan_298 (by decide) ?_
                  refine lv_icmp_ne (tgt := 306) hx hb dX13_scan_299 (by decide) (fun c64 => ?_) (fun c64 => ?_)
                  · have c64 : ¬ (y58).toInt = (1 : Int) := fun h9 => c64 (hq_eqi.mpr h9)
                    refine lv_iload_n hx hb dX13_scan_306 rfl (lv_at hl 1 rfl) ?_
                    refine lv_bipush (v := 59) hx hb dX13_scan_307 (by decide) ?_
                    refine lv_icmp_ne (tgt := 316) hx hb dX13_scan_309 (by decide) (fun c65 => ?_) (fun c65 => ?_)
                    · have c65 : ¬ (r12).toInt = (59 : Int) := fun h9 => c65 (hq_eqi.mpr h9)
                      refine lv_iconst (v := 5) hx hb dX13_scan_316 (by decide) ?_
                      refine hp_put hx hb hts hown hZ ho44 fp_X13_83 rfl rfl (Nat.le_of_ble_eq_true rfl) dX13_scan_317 (fun V66 _ _ e67 o68 hZ => ?_)
                      have e67 : V66 (mo) = some (.inr (13, hm_o q (m_tp) (m_sz) (bh9) (bh8) (5) (m_ft) (m_fa) (m_le) (m_fo) (m_as) (m_fd) (m_bc) (m_bg) (m_bs) (m_be) (m_b0) (m_b1) (m_cm) (m_hc))) := e67
                      have hP := hP.put h_mo e67 o68 (trivial) rfl
                      have hl69 : (5 : Int32).toInt = 5 := by decide
                      exact hp_vret hx hb hr hlocks hZ ⟨rfl, hP, ⟨bh9, bh8, 5, e67, by omega, show _ ∨ _ by omega, ⟨by omega, by omega, by omega, by omega, by omega, by omega, by omega⟩⟩⟩ dX13_scan_320
                    · have c65 : (r12).toInt = (59 : Int) := hq_eqi.mp c65
                      refine lv_iconst (v := 4) hx hb dX13_scan_312 (by decide) ?_
                      refine lv_goto (tgt := 317) hx hb dX13_scan_313 (by decide) ?_
                      refine hp_put hx hb hts hown hZ ho44 fp_X13_83 rfl rfl (Nat.le_of_ble_eq_true rfl) dX13_scan_317 (fun V70 _ _ e71 o72 hZ => ?_)
                      have e71 : V70 (mo) = some (.inr (13, hm_o q (m_tp) (m_sz) (bh9) (bh8) (4) (m_ft) (m_fa) (m_le) (m_fo) (m_as) (m_fd) (m_bc) (m_bg) (m_bs) (m_be) (m_b0) (m_b1) (m_cm) (m_hc))) := e71
                      have hP := hP.put h_mo e71 o72 (trivial) rfl
                      have hl73 : (4 : Int32).toInt = 4 := by decide
                      exact hp_vret hx hb hr hlocks hZ ⟨rfl, hP, ⟨bh9, bh8, 4, e71, by omega, show _ ∨ _ by omega, ⟨by omega, by omega, by omega, by omega, by omega, by omega, by omega⟩⟩⟩ dX13_scan_320
                  · have c64 : (y58).toInt = (1 : Int) := hq_eqi.mp c64
                    refine lv_iconst (v := 2) hx hb dX13_scan_302 (by decide) ?_
                    refine lv_goto (tgt := 317) hx hb dX13_scan_303 (by decide) ?_
                    refine hp_put hx hb hts hown hZ ho44 fp_X13_83 rfl rfl (Nat.le_of_ble_eq_true rfl) dX13_scan_317 (fun V74 _ _ e75 o76 hZ => ?_)
                    have e75 : V74 (mo) = some (.inr (13, hm_o q (m_tp) (m_sz) (bh9) (bh8) (2) (m_ft) (m_fa) (m_le) (m_fo) (m_as) (m_fd) (m_bc) (m_bg) (m_bs) (m_be) (m_b0) (m_b1) (m_cm) (m_hc))) := e75
                    have hP := hP.put h_mo e75 o76 (trivial) rfl
                    have hl77 : (2 : Int32).toInt = 2 := by decide
                    exact hp_vret hx hb hr hlocks hZ ⟨rfl, hP, ⟨bh9, bh8, 2, e75, by omega, show _ ∨ _ by omega, ⟨by omega, by omega, by omega, by omega, by omega, by omega, by omega⟩⟩⟩ dX13_scan_320
              · have c47 : ¬ (r39).toInt = (0 : Int) := fun h9 => c47 (hq_eqi.mpr h9)
                refine lv_aload_n hx hb dX13_scan_257 rfl (lv_at hl 2 rfl) ?_
                refine lv_aload_n hx hb dX13_scan_258 rfl (lv_at hl 2 rfl) ?_
                refine hp_get (v := .int (bh8)) hx hb hts hown hZ ho44 fl_X13_76 rfl dX13_scan_259 ?_
                refine hp_calli (hp_runV (As := [.int (bh8)]) (rest := []) hx hb hml hown hts (t_X13_byteAt l D cs B G  V9 n hP.1 q hR (mo) h_mo (bh8) ho44  (by omega) (by omega) (by omega) (by omega) (by omega) (by omega) (by omega) (by omega) (by omega)) hZ ho44 cv_X13_79 rfl rfl ⟨Nat.le_of_ble_eq_true rfl, Nat.le_of_ble_eq_true rfl⟩ rfl hl.1 rfl (Nat.le_of_ble_eq_true rfl) dX13_scan_262 ⟨(Nat.le_of_ble_eq_true rfl), (Nat.le_of_ble_eq_true rfl)⟩) hZ (fun r81 V78 n79 _ _ hw80 hZ => ?_)
                obtain ⟨rfl, hq82, ho84, hr83⟩ := hw80
                have hP := hP.trans hq82 (fun _ _ => rfl)
                have b85 := hq_rng r81
                refine hp_calli (hp_runS (As := [.int (r81)]) (rest := []) hx hb hml hown hts (t_X13_isFigure l D cs B G  V78 n hP.1  (r81) ) hZ cv_X13_90 rfl rfl ⟨Nat.le_of_ble_eq_true rfl, Nat.le_of_ble_eq_true rfl⟩ rfl hl.1 rfl (Nat.le_of_ble_eq_true rfl) dX13_scan_265 ⟨(Nat.le_of_ble_eq_true rfl), (Nat.le_of_ble_eq_true rfl)⟩) hZ (fun r89 V86 n87 _ _ hw88 hZ => ?_)
                obtain ⟨rfl, hq90, hr91⟩ := hw88
                have hP := hP.trans hq90 (fun _ _ => rfl)
                have b92 := hq_rng r89
                refine lv_if_eq (tgt := 284) hx hb dX13_scan_268 (by decide) (fun c93 => ?_) (fun c93 => ?_)
                · have c93 : (r89).toInt = (0 : Int) := hq_eqi.mp c93
                  refine lv_aload_n hx hb dX13_scan_284 rfl (lv_at hl 2 rfl) ?_
                  refine lv_iload_n hx hb dX13_scan_285 rfl (lv_at hl 0 rfl) ?_
                  refine lv_if_eq (tgt := 306) hx hb dX13_scan_286 (by decide) (fun c94 => ?_) (fun c94 => ?_)
                  · have c94 : (r39).toInt = (0 : Int) := hq_eqi.mp c94
                    refine lv_iload_n hx hb dX13_scan_306 rfl (lv_at hl 1 rfl) ?_
                    refine lv_bipush (v := 59) hx hb dX13_scan_307 (by decide) ?_
                    refine lv_icmp_ne (tgt := 316) hx hb dX13_scan_309 (by decide) (fun c95 => ?_) (fun c95 => ?_)
                    · have c95 : ¬ (r12).toInt = (59 : Int) := fun h9 => c95 (hq_eqi.mpr h9)
                      refine lv_iconst (v := 5) hx hb dX13_scan_316 (by decide) ?_
                      have fx96 : V86 (mo) = some (.inr (13, hm_o q (m_tp) (m_sz) (bh9) (bh8) (m_hd) (m_ft) (m_fa) (m_le) (m_fo) (m_as) (m_fd) (m_bc) (m_bg) (m_bs) (m_be) (m_b0) (m_b1) (m_cm) (m_hc))) := (hq90.2 (mo) _ h_mo rfl).trans (ho84)
                      refine hp_put hx hb hts hown hZ fx96 fp_X13_83 rfl rfl (Nat.le_of_ble_eq_true rfl) dX13_scan_317 (fun V97 _ _ e98 o99 hZ => ?_)
                      have e98 : V97 (mo) = some (.inr (13, hm_o q (m_tp) (m_sz) (bh9) (bh8) (5) (m_ft) (m_fa) (m_le) (m_fo) (m_as) (m_fd) (m_bc) (m_bg) (m_bs) (m_be) (m_b0) (m_b1) (m_cm) (m_hc))) := e98
                      have hP := hP.put h_mo e98 o99 (trivial) rfl
                      have hl100 : (5 : Int32).toInt = 5 := by decide
                      exact hp_vret hx hb hr hlocks hZ ⟨rfl, hP, ⟨bh9, bh8, 5, e98, by omega, show _ ∨ _ by omega, ⟨by omega, by omega, by omega, by omega, by omega, by omega, by omega⟩⟩⟩ dX13_scan_320
                    · have c95 : (r12).toInt = (59 : Int) := hq_eqi.mp c95
                      refine lv_iconst (v := 4) hx hb dX13_scan_312 (by decide) ?_
                      refine lv_goto (tgt := 317) hx hb dX13_scan_313 (by decide) ?_
                      have fx101 : V86 (mo) = some (.inr (13, hm_o q (m_tp) (m_sz) (bh9) (bh8) (m_hd) (m_ft) (m_fa) (m_le) (m_fo) (m_as) (m_fd) (m_bc) (m_bg) (m_bs) (m_be) (m_b0) (m_b1) (m_cm) (m_hc))) := (hq90.2 (mo) _ h_mo rfl).trans (ho84)
                      refine hp_put hx hb hts hown hZ fx101 fp_X13_83 rfl rfl (Nat.le_of_ble_eq_true rfl) dX13_scan_317 (fun V102 _ _ e103 o104 hZ => ?_)
                      have e103 : V102 (mo) = some (.inr (13, hm_o q (m_tp) (m_sz) (bh9) (bh8) (4) (m_ft) (m_fa) (m_le) (m_fo) (m_as) (m_fd) (m_bc) (m_bg) (m_bs) (m_be) (m_b0) (m_b1) (m_cm) (m_hc))) := e103
                      have hP := hP.put h_mo e103 o104 (trivial) rfl
                      have hl105 : (4 : Int32).toInt = 4 := by decide
                      exact hp_vret hx hb hr hlocks hZ ⟨rfl, hP, ⟨bh9, bh8, 4, e103, by omega, show _ ∨ _ by omega, ⟨by omega, by omega, by omega, by omega, by omega, by omega, by omega⟩⟩⟩ dX13_scan_320
                  · have c94 : ¬ (r39).toInt = (0 : Int) := fun h9 => c94 (hq_eqi.mpr h9)
                    refine lv_aload_n hx hb dX13_scan_289 rfl (lv_at hl 2 rfl) ?_
                    have fx106 : V86 (mo) = some (.inr (13, hm_o q (m_tp) (m_sz) (bh9) (bh8) (m_hd) (m_ft) (m_fa) (m_le) (m_fo) (m_as) (m_fd) (m_bc) (m_bg) (m_bs) (m_be) (m_b0) (m_b1) (m_cm) (m_hc))) := (hq90.2 (mo) _ h_mo rfl).trans (ho84)
                    refine hp_get (v := .int (bh8)) hx hb hts hown hZ fx106 fl_X13_76 rfl dX13_scan_290 ?_
                    refine lv_aload_n hx hb dX13_scan_293 rfl (lv_at hl 2 rfl) ?_
                    refine hp_get (v := .int (bh9)) hx hb hts hown hZ fx106 fl_X13_60 rfl dX13_scan_294 ?_
                    refine lv_isub hx hb dX13_scan_297 ?_
                    refine lv_topi (fun y107 ey108 => ?_)
                    obtain ⟨k109, hk110, b111, b112⟩ := hq_sub (bh8) (bh9)
                    rw [← ey108] at hk110 b111 b112
                    have hk110 : (y107).toInt = (bh8).toInt - (bh9).toInt + k109 * 4294967296 := hk110
                    obtain rfl : k109 = 0 := by omega
                    refine lv_iconst (v := 1) hx hb dX13_scan_298 (by decide) ?_
                    refine lv_icmp_ne (tgt := 306) hx hb dX13_scan_299 (by decide) (fun c113 => ?_) (fun c113 => ?_)
                    · have c113 : ¬ (y107).toInt = (1 : Int) := fun h9 => c113 (hq_eqi.mpr h9)
                      refine lv_iload_n hx hb dX13_scan_306 rfl (lv_at hl 1 rfl) ?_
                      refine lv_bipush (v := 59) hx hb dX13_scan_307 (by decide) ?_
                      refine lv_icmp_ne (tgt := 316) hx hb dX13_scan_309 (by decide) (fun c114 => ?_) (fun c114 => ?_)
                      · have c114 : ¬ (r12).toInt = (59 : Int) := fun h9 => c114 (hq_eqi.mpr h9)
                        refine lv_iconst (v := 5) hx hb dX13_scan_316 (by decide) ?_
                        refine hp_put hx hb hts hown hZ fx106 fp_X13_83 rfl rfl (Nat.le_of_ble_eq_true rfl) dX13_scan_317 (fun V115 _ _ e116 o117 hZ => ?_)
                        have e116 : V115 (mo) = some (.inr (13, hm_o q (m_tp) (m_sz) (bh9) (bh8) (5) (m_ft) (m_fa) (m_le) (m_fo) (m_as) (m_fd) (m_bc) (m_bg) (m_bs) (m_be) (m_b0) (m_b1) (m_cm) (m_hc))) := e116
                        have hP := hP.put h_mo e116 o117 (trivial) rfl
                        have hl118 : (5 : Int32).toInt = 5 := by decide
                        exact hp_vret hx hb hr hlocks hZ ⟨rfl, hP, ⟨bh9, bh8, 5, e116, by omega, show _ ∨ _ by omega, ⟨by omega, by omega, by omega, by omega, by omega, by omega, by omega⟩⟩⟩ dX13_scan_320
                      · have c114 : (r12).toInt = (59 : Int) := hq_eqi.mp c114
                        refine lv_iconst (v := 4) hx hb dX13_scan_312 (by decide) ?_
                        refine lv_goto (tgt := 317) hx hb dX13_scan_313 (by decide) ?_
                        refine hp_put hx hb hts hown hZ fx106 fp_X13_83 rfl rfl (Nat.le_of_ble_eq_true rfl) dX13_scan_317 (fun V119 _ _ e120 o121 hZ => ?_)
                        have e120 : V119 (mo) = some (.inr (13, hm_o q (m_tp) (m_sz) (bh9) (bh8) (4) (m_ft) (m_fa) (m_le) (m_fo) (m_as) (m_fd) (m_bc) (m_bg) (m_bs) (m_be) (m_b0) (m_b1) (m_cm) (m_hc))) := e120
                        have hP := hP.put h_mo e120 o121 (trivial) rfl
                        have hl122 : (4 : Int32).toInt = 4 := by decide
                        exact hp_vret hx hb hr hlocks hZ ⟨rfl, hP, ⟨bh9, bh8, 4, e120, by omega, show _ ∨ _ by omega, ⟨by omega, by omega, by omega, by omega, by omega, by omega, by omega⟩⟩⟩ dX13_scan_320
                    · have c113 : (y107).toInt = (1 : Int) := hq_eqi.mp c113
                      refine lv_iconst (v := 2) hx hb dX13_scan_302 (by decide) ?_
                      refine lv_goto (tgt := 317) hx hb dX13_scan_303 (by decide) ?_
                      refine hp_put hx hb hts hown hZ fx106 fp_X13_83 rfl rfl (Nat.le_of_ble_eq_true rfl) dX13_scan_317 (fun V123 _ _ e124 o125 hZ => ?_)
                      have e124 : V123 (mo) = some (.inr (13, hm_o q (m_tp) (m_sz) (bh9) (bh8) (2) (m_ft) (m_fa) (m_le) (m_fo) (m_as) (m_fd) (m_bc) (m_bg) (m_bs) (m_be) (m_b0) (m_b1) (m_cm) (m_hc))) := e124
                      have hP := hP.put h_mo e124 o125 (trivial) rfl
                      have hl126 : (2 : Int32).toInt = 2 := by decide
                      exact hp_vret hx hb hr hlocks hZ ⟨rfl, hP, ⟨bh9, bh8, 2, e124, by omega, show _ ∨ _ by omega, ⟨by omega, by omega, by omega, by omega, by omega, by omega, by omega⟩⟩⟩ dX13_scan_320
                · have c93 : ¬ (r89).toInt = (0 : Int) := fun h9 => c93 (hq_eqi.mpr h9)
                  refine lv_aload_n hx hb dX13_scan_271 rfl (lv_at hl 2 rfl) ?_
                  refine lv_dup hx hb dX13_scan_272 rfl ?_
                  have fx127 : V86 (mo) = some (.inr (13, hm_o q (m_tp) (m_sz) (bh9) (bh8) (m_hd) (m_ft) (m_fa) (m_le) (m_fo) (m_as) (m_fd) (m_bc) (m_bg) (m_bs) (m_be) (m_b0) (m_b1) (m_cm) (m_hc))) := (hq90.2 (mo) _ h_mo rfl).trans (ho84)
                  refine hp_get (v := .int (bh8)) hx hb hts hown hZ fx127 fl_X13_76 rfl dX13_scan_273 ?_
                  refine lv_iconst (v := 1) hx hb dX13_scan_276 (by decide) ?_
                  refine lv_iadd hx hb dX13_scan_277 ?_
                  refine lv_topi (fun y128 ey129 => ?_)
                  obtain ⟨k130, hk131, b132, b133⟩ := hq_add (bh8) (1)
                  rw [← ey129] at hk131 b132 b133
                  have hk131 : (y128).toInt = (bh8).toInt + (1 : Int) + k130 * 4294967296 := hk131
                  obtain rfl : k130 = 0 := by omega
                  refine hp_put hx hb hts hown hZ fx127 fp_X13_76 rfl rfl (Nat.le_of_ble_eq_true rfl) dX13_scan_278 (fun V134 _ _ e135 o136 hZ => ?_)
                  have e135 : V134 (mo) = some (.inr (13, hm_o q (m_tp) (m_sz) (bh9) (y128) (m_hd) (m_ft) (m_fa) (m_le) (m_fo) (m_as) (m_fd) (m_bc) (m_bg) (m_bs) (m_be) (m_b0) (m_b1) (m_cm) (m_hc))) := e135
                  have hP := hP.put h_mo e135 o136 (trivial) rfl
                  refine lv_goto (tgt := 253) hx hb dX13_scan_281 (by decide) ?_
                  exact ih253 _ (by omega) _ _ _ ls  (y128) rfl hZ hP e135 (by omega) (by omega) (lv_sub hl [0, 1, 2] rfl)
          · have c35 : (r12).toInt = (39 : Int) := hq_eqi.mp c35
            have fx137 : V27 (mo) = some (.inr (13, hm_o q (m_tp) (m_sz) (bh9) (y18) (m_hd) (m_ft) (m_fa) (m_le) (m_fo) (m_as) (m_fd) (m_bc) (m_bg) (m_bs) (m_be) (m_b0) (m_b1) (m_cm) (m_hc))) := (hq31.2 (mo) _ h_mo rfl).trans (e25)
            suffices lp162 : ∀ (k9 : Nat) (V9 : hp_V) (H9 : Heap) (locs9 : List Loc) (ls : Array Slot)  (bh8 : Int32), (5000 - bh8.toInt).toNat = k9 → hp_Z D cs B s V9 H9 n locs9 → hq_P cs G (fun g => g.1 == 1) V V9 → V9 (mo) = some (.inr (13, hm_o q (m_tp) (m_sz) (bh9) (bh8) (m_hd) (m_ft) (m_fa) (m_le) (m_fo) (m_as) (m_fd) (m_bc) (m_bg) (m_bs) (m_be) (m_b0) (m_b1) (m_cm) (m_hc))) → bh9.toInt + 1 ≤ bh8.toInt → bh8.toInt ≤ m_sz.toInt → lv_has ls 3 [(1, .int (r12)), (0, .ref (mo))] → W p l e ({ frames := 2, cells := 0, slots := 0, locals := 42 }) s m ([.ref (mo)] : List Value).toArray below meth c H9 locs9 0 0 (MQ below (hp_QV D cs B (fun V' n' => n = n' ∧ hq_P cs G (fun g => g.1 == 1) V V' ∧ (∃ (m_fr1 : Int32) (m_bh1 : Int32) (m_hd1 : Int32), V' mo = some (.inr (13, hm_o q (m_tp) (m_sz) (m_fr1) (m_bh1) (m_hd1) (m_ft) (m_fa) (m_le) (m_fo) (m_as) (m_fd) (m_bc) (m_bg) (m_bs) (m_be) (m_b0) (m_b1) (m_cm) (m_hc))) ∧ (m_bh.toInt ≤ m_bh1.toInt) ∧ (hm_Up m_bh m_bh1 m_hd1) ∧ (hm_SC m_sz m_fr1 m_bh1 m_hd1)))) ([.ref (mo)] : List Value).toArray s 0 0 (hp_F B)) (F0 m 162 ls []) from lp162 _ _ _ _ ls  (y18) rfl hZ hP fx137 (by omega) (by omega) (lv_sub hl [0, 1] rfl)
            intro k9
            induction k9 using Nat.strongRecOn with
            | _ k9 ih162 =>
              intro V9 H9 locs9 ls  bh8 hk162 hZ hP ho138 hv139 hv140 hl
              have hb_bh8 := hq_rng bh8
              have hP_162 := hP
              refine lv_aload_n hx hb dX13_scan_162 rfl (lv_at hl 1 rfl) ?_
              refine lv_aload_n hx hb dX13_scan_163 rfl (lv_at hl 1 rfl) ?_
              refine hp_get (v := .int (bh8)) hx hb hts hown hZ ho138 fl_X13_76 rfl dX13_scan_164 ?_
              refine hp_calli (hp_runV (As := [.int (bh8)]) (rest := []) hx hb hml hown hts (t_X13_byteAt l D cs B G  V9 n hP.1 q hR (mo) h_mo (bh8) ho138  (by omega) (by omega) (by omega) (by omega) (by omega) (by omega) (by omega) (by omega) (by omega)) hZ ho138 cv_X13_79 rfl rfl ⟨Nat.le_of_ble_eq_true rfl, Nat.le_of_ble_eq_true rfl⟩ rfl hl.1 rfl (Nat.le_of_ble_eq_true rfl) dX13_scan_167 ⟨(Nat.le_of_ble_eq_true rfl), (Nat.le_of_ble_eq_true rfl)⟩) hZ (fun r144 V141 n142 _ _ hw143 hZ => ?_)
              obtain ⟨rfl, hq145, ho147, hr146⟩ := hw143
              have hP := hP.trans hq145 (fun _ _ => rfl)
              have b148 := hq_rng r144
              refine hp_calli (hp_runS (As := [.int (r144)]) (rest := []) hx hb hml hown hts (t_X13_isSmall l D cs B G  V141 n hP.1  (r144) ) hZ cv_X13_86 rfl rfl ⟨Nat.le_of_ble_eq_true rfl, Nat.le_of_ble_eq_true rfl⟩ rfl hl.1 rfl (Nat.le_of_ble_eq_true rfl) dX13_scan_170 ⟨(Nat.le_of_ble_eq_true rfl), (Nat.le_of_ble_eq_true rfl)⟩) hZ (fun r152 V149 n150 _ _ hw151 hZ => ?_)
              obtain ⟨rfl, hq153, hr154⟩ := hw151
              have hP := hP.trans hq153 (fun _ _ => rfl)
              have b155 := hq_rng r152
              refine lv_if_eq (tgt := 189) hx hb dX13_scan_173 (by decide) (fun c156 => ?_) (fun c156 => ?_)
              · have c156 : (r152).toInt = (0 : Int) := hq_eqi.mp c156
                refine lv_aload_n hx hb dX13_scan_189 rfl (lv_at hl 1 rfl) ?_
                refine lv_aload_n hx hb dX13_scan_190 rfl (lv_at hl 1 rfl) ?_
                have fx157 : V149 (mo) = some (.inr (13, hm_o q (m_tp) (m_sz) (bh9) (bh8) (m_hd) (m_ft) (m_fa) (m_le) (m_fo) (m_as) (m_fd) (m_bc) (m_bg) (m_bs) (m_be) (m_b0) (m_b1) (m_cm) (m_hc))) := (hq153.2 (mo) _ h_mo rfl).trans (ho147)
                refine hp_get (v := .int (bh8)) hx hb hts hown hZ fx157 fl_X13_76 rfl dX13_scan_191 ?_
                refine hp_calli (hp_runV (As := [.int (bh8)]) (rest := []) hx hb hml hown hts (t_X13_byteAt l D cs B G  V149 n hP.1 q hR (mo) h_mo (bh8) fx157  (by omega) (by omega) (by omega) (by omega) (by omega) (by omega) (by omega) (by omega) (by omega)) hZ fx157 cv_X13_79 rfl rfl ⟨Nat.le_of_ble_eq_true rfl, Nat.le_of_ble_eq_true rfl⟩ rfl hl.1 rfl (Nat.le_of_ble_eq_true rfl) dX13_scan_194 ⟨(Nat.le_of_ble_eq_true rfl), (Nat.le_of_ble_eq_true rfl)⟩) hZ (fun r161 V158 n159 _ _ hw160 hZ => ?_)
                obtain ⟨rfl, hq162, ho164, hr163⟩ := hw160
                have hP := hP.trans hq162 (fun _ _ => rfl)
                have b165 := hq_rng r161
                refine lv_bipush (v := 39) hx hb dX13_scan_197 (by decide) ?_
                refine lv_icmp_ne (tgt := 220) hx hb dX13_scan_199 (by decide) (fun c166 => ?_) (fun c166 => ?_)
                · have c166 : ¬ (r161).toInt = (39 : Int) := fun h9 => c166 (hq_eqi.mpr h9)
                  refine lv_iconst (v := 0) hx hb dX13_scan_220 (by decide) ?_
                  refine lv_istore_n (lv' := [(2, .int (0)), (1, .int (r12)), (0, .ref (mo))]) hx hb dX13_scan_221 rfl hl (by decide) rfl (fun ls hl => ?_)
                  refine lv_aload_n hx hb dX13_scan_222 rfl (lv_at hl 2 rfl) ?_
                  refine lv_iload_n hx hb dX13_scan_223 rfl (lv_at hl 0 rfl) ?_
                  refine lv_if_eq (tgt := 231) hx hb dX13_scan_224 (by decide) (fun c167 => ?_) (fun c167 => absurd (by decide) c167)
                  refine lv_iconst (v := 5) hx hb dX13_scan_231 (by decide) ?_
                  refine hp_put hx hb hts hown hZ ho164 fp_X13_83 rfl rfl (Nat.le_of_ble_eq_true rfl) dX13_scan_232 (fun V168 _ _ e169 o170 hZ => ?_)
                  have e169 : V168 (mo) = some (.inr (13, hm_o q (m_tp) (m_sz) (bh9) (bh8) (5) (m_ft) (m_fa) (m_le) (m_fo) (m_as) (m_fd) (m_bc) (m_bg) (m_bs) (m_be) (m_b0) (m_b1) (m_cm) (m_hc))) := e169
                  have hP := hP.put h_mo e169 o170 (trivial) rfl
                  refine lv_aload_n hx hb dX13_scan_235 rfl (lv_at hl 2 rfl) ?_
                  refine lv_dup hx hb dX13_scan_236 rfl ?_
                  refine hp_get (v := .int (bh8)) hx hb hts hown hZ e169 fl_X13_76 rfl dX13_scan_237 ?_
                  refine lv_iconst (v := 1) hx hb dX13_scan_240 (by decide) ?_
                  refine lv_iadd hx hb dX13_scan_241 ?_
                  refine lv_topi (fun y171 ey172 => ?_)
                  obtain ⟨k173, hk174, b175, b176⟩ := hq_add (bh8) (1)
                  rw [← ey172] at hk174 b175 b176
                  have hk174 : (y171).toInt = (bh8).toInt + (1 : Int) + k173 * 4294967296 := hk174
                  obtain rfl : k173 = 0 := by omega
                  refine hp_put hx hb hts hown hZ e169 fp_X13_76 rfl rfl (Nat.le_of_ble_eq_true rfl) dX13_scan_242 (fun V177 _ _ e178 o179 hZ => ?_)
                  have e178 : V177 (mo) = some (.inr (13, hm_o q (m_tp) (m_sz) (bh9) (y171) (5) (m_ft) (m_fa) (m_le) (m_fo) (m_as) (m_fd) (m_bc) (m_bg) (m_bs) (m_be) (m_b0) (m_b1) (m_cm) (m_hc))) := e178
                  have hP := hP.put h_mo e178 o179 (trivial) rfl
                  refine lv_goto (tgt := 320) hx hb dX13_scan_245 (by decide) ?_
                  have hl180 : (5 : Int32).toInt = 5 := by decide
                  exact hp_vret hx hb hr hlocks hZ ⟨rfl, hP, ⟨bh9, y171, 5, e178, by omega, show _ ∨ _ by omega, ⟨by omega, by omega, by omega, by omega, by omega, by omega, by omega⟩⟩⟩ dX13_scan_320
                · have c166 : (r161).toInt = (39 : Int) := hq_eqi.mp c166
                  refine lv_aload_n hx hb dX13_scan_202 rfl (lv_at hl 1 rfl) ?_
                  refine hp_get (v := .int (bh8)) hx hb hts hown hZ ho164 fl_X13_76 rfl dX13_scan_203 ?_
                  refine lv_aload_n hx hb dX13_scan_206 rfl (lv_at hl 1 rfl) ?_
                  refine hp_get (v := .int (bh9)) hx hb hts hown hZ ho164 fl_X13_60 rfl dX13_scan_207 ?_
                  refine lv_isub hx hb dX13_scan_210 ?_
                  refine lv_topi (fun y181 ey182 => ?_)
                  obtain ⟨k183, hk184, b185, b186⟩ := hq_sub (bh8) (bh9)
                  rw [← ey182] at hk184 b185 b186
                  have hk184 : (y181).toInt = (bh8).toInt - (bh9).toInt + k183 * 4294967296 := hk184
                  obtain rfl : k183 = 0 := by omega
                  refine lv_bipush (v := 9) hx hb dX13_scan_211 (by decide) ?_
                  refine lv_icmp_gt (tgt := 220) hx hb dX13_scan_213 (by decide) (fun c187 => ?_) (fun c187 => ?_)
                  · have c187 : (9 : Int) < (y181).toInt := hq_lti.mp c187
                    refine lv_iconst (v := 0) hx hb dX13_scan_220 (by decide) ?_
                    refine lv_istore_n (lv' := [(2, .int (0)), (1, .int (r12)), (0, .ref (mo))]) hx hb dX13_scan_221 rfl hl (by decide) rfl (fun ls hl => ?_)
                    refine lv_aload_n hx hb dX13_scan_222 rfl (lv_at hl 2 rfl) ?_
                    refine lv_iload_n hx hb dX13_scan_223 rfl (lv_at hl 0 rfl) ?_
                    refine lv_if_eq (tgt := 231) hx hb dX13_scan_224 (by decide) (fun c188 => ?_) (fun c188 => absurd (by decide) c188)
                    refine lv_iconst (v := 5) hx hb dX13_scan_231 (by decide) ?_
                    refine hp_put hx hb hts hown hZ ho164 fp_X13_83 rfl rfl (Nat.le_of_ble_eq_true rfl) dX13_scan_232 (fun V189 _ _ e190 o191 hZ => ?_)
                    have e190 : V189 (mo) = some (.inr (13, hm_o q (m_tp) (m_sz) (bh9) (bh8) (5) (m_ft) (m_fa) (m_le) (m_fo) (m_as) (m_fd) (m_bc) (m_bg) (m_bs) (m_be) (m_b0) (m_b1) (m_cm) (m_hc))) := e190
                    have hP := hP.put h_mo e190 o191 (trivial) rfl
                    refine lv_aload_n hx hb dX13_scan_235 rfl (lv_at hl 2 rfl) ?_
                    refine lv_dup hx hb dX13_scan_236 rfl ?_
                    refine hp_get (v := .int (bh8)) hx hb hts hown hZ e190 fl_X13_76 rfl dX13_scan_237 ?_
                    refine lv_iconst (v := 1) hx hb dX13_scan_240 (by decide) ?_
                    refine lv_iadd hx hb dX13_scan_241 ?_
                    refine lv_topi (fun y192 ey193 => ?_)
                    obtain ⟨k194, hk195, b196, b197⟩ := hq_add (bh8) (1)
                    rw [← ey193] at hk195 b196 b197
                    have hk195 : (y192).toInt = (bh8).toInt + (1 : Int) + k194 * 4294967296 := hk195
                    obtain rfl : k194 = 0 := by omega
                    refine hp_put hx hb hts hown hZ e190 fp_X13_76 rfl rfl (Nat.le_of_ble_eq_true rfl) dX13_scan_242 (fun V198 _ _ e199 o200 hZ => ?_)
                    have e199 : V198 (mo) = some (.inr (13, hm_o q (m_tp) (m_sz) (bh9) (y192) (5) (m_ft) (m_fa) (m_le) (m_fo) (m_as) (m_fd) (m_bc) (m_bg) (m_bs) (m_be) (m_b0) (m_b1) (m_cm) (m_hc))) := e199
                    have hP := hP.put h_mo e199 o200 (trivial) rfl
                    refine lv_goto (tgt := 320) hx hb dX13_scan_245 (by decide) ?_
                    have hl201 : (5 : Int32).toInt = 5 := by decide
                    exact hp_vret hx hb hr hlocks hZ ⟨rfl, hP, ⟨bh9, y192, 5, e199, by omega, show _ ∨ _ by omega, ⟨by omega, by omega, by omega, by omega, by omega, by omega, by omega⟩⟩⟩ dX13_scan_320
                  · have c187 : ¬ (9 : Int) < (y181).toInt := fun h9 => c187 (hq_lti.mpr h9)
                    refine lv_iconst (v := 1) hx hb dX13_scan_216 (by decide) ?_
                    refine lv_goto (tgt := 221) hx hb dX13_scan_217 (by decide) ?_
                    refine lv_istore_n (lv' := [(2, .int (1)), (1, .int (r12)), (0, .ref (mo))]) hx hb dX13_scan_221 rfl hl (by decide) rfl (fun ls hl => ?_)
                    refine lv_aload_n hx hb dX13_scan_222 rfl (lv_at hl 2 rfl) ?_
                    refine lv_iload_n hx hb dX13_scan_223 rfl (lv_at hl 0 rfl) ?_
                    refine lv_if_eq (tgt := 231) hx hb dX13_scan_224 (by decide) (fun c202 => absurd c202 (by decide)) (fun c202 => ?_)
                    refine lv_iconst (v := 3) hx hb dX13_scan_227 (by decide) ?_
                    refine lv_goto (tgt := 232) hx hb dX13_scan_228 (by decide) ?_
                    refine hp_put hx hb hts hown hZ ho164 fp_X13_83 rfl rfl (Nat.le_of_ble_eq_true rfl) dX13_scan_232 (fun V203 _ _ e204 o205 hZ => ?_)
                    have e204 : V203 (mo) = some (.inr (13, hm_o q (m_tp) (m_sz) (bh9) (bh8) (3) (m_ft) (m_fa) (m_le) (m_fo) (m_as) (m_fd) (m_bc) (m_bg) (m_bs) (m_be) (m_b0) (m_b1) (m_cm) (m_hc))) := e204
                    have hP := hP.put h_mo e204 o205 (trivial) rfl
                    refine lv_aload_n hx hb dX13_scan_235 rfl (lv_at hl 2 rfl) ?_
                    refine lv_dup hx hb dX13_scan_236 rfl ?_
                    refine hp_get (v := .int (bh8)) hx hb hts hown hZ e204 fl_X13_76 rfl dX13_scan_237 ?_
                    refine lv_iconst (v := 1) hx hb dX13_scan_240 (by decide) ?_
                    refine lv_iadd hx hb dX13_scan_241 ?_
                    refine lv_topi (fun y206 ey207 => ?_)
                    obtain ⟨k208, hk209, b210, b211⟩ := hq_add (bh8) (1)
                    rw [← ey207] at hk209 b210 b211
                    have hk209 : (y206).toInt = (bh8).toInt + (1 : Int) + k208 * 4294967296 := hk209
                    obtain rfl : k208 = 0 := by omega
                    refine hp_put hx hb hts hown hZ e204 fp_X13_76 rfl rfl (Nat.le_of_ble_eq_true rfl) dX13_scan_242 (fun V212 _ _ e213 o214 hZ => ?_)
                    have e213 : V212 (mo) = some (.inr (13, hm_o q (m_tp) (m_sz) (bh9) (y206) (3) (m_ft) (m_fa) (m_le) (m_fo) (m_as) (m_fd) (m_bc) (m_bg) (m_bs) (m_be) (m_b0) (m_b1) (m_cm) (m_hc))) := e213
                    have hP := hP.put h_mo e213 o214 (trivial) rfl
                    refine lv_goto (tgt := 320) hx hb dX13_scan_245 (by decide) ?_
                    have hl215 : (3 : Int32).toInt = 3 := by decide
                    exact hp_vret hx hb hr hlocks hZ ⟨rfl, hP, ⟨bh9, y206, 3, e213, by omega, show _ ∨ _ by omega, ⟨by omega, by omega, by omega, by omega, by omega, by omega, by omega⟩⟩⟩ dX13_scan_320
              · have c156 : ¬ (r152).toInt = (0 : Int) := fun h9 => c156 (hq_eqi.mpr h9)
                refine lv_aload_n hx hb dX13_scan_176 rfl (lv_at hl 1 rfl) ?_
                refine lv_dup hx hb dX13_scan_177 rfl ?_
                have fx216 : V149 (mo) = some (.inr (13, hm_o q (m_tp) (m_sz) (bh9) (bh8) (m_hd) (m_ft) (m_fa) (m_le) (m_fo) (m_as) (m_fd) (m_bc) (m_bg) (m_bs) (m_be) (m_b0) (m_b1) (m_cm) (m_hc))) := (hq153.2 (mo) _ h_mo rfl).trans (ho147)
                refine hp_get (v := .int (bh8)) hx hb hts hown hZ fx216 fl_X13_76 rfl dX13_scan_178 ?_
                refine lv_iconst (v := 1) hx hb dX13_scan_181 (by decide) ?_
                refine lv_iadd hx hb dX13_scan_182 ?_
                refine lv_topi (fun y217 ey218 => ?_)
                obtain ⟨k219, hk220, b221, b222⟩ := hq_add (bh8) (1)
                rw [← ey218] at hk220 b221 b222
                have hk220 : (y217).toInt = (bh8).toInt + (1 : Int) + k219 * 4294967296 := hk220
                obtain rfl : k219 = 0 := by omega
                refine hp_put hx hb hts hown hZ fx216 fp_X13_76 rfl rfl (Nat.le_of_ble_eq_true rfl) dX13_scan_183 (fun V223 _ _ e224 o225 hZ => ?_)
                have e224 : V223 (mo) = some (.inr (13, hm_o q (m_tp) (m_sz) (bh9) (y217) (m_hd) (m_ft) (m_fa) (m_le) (m_fo) (m_as) (m_fd) (m_bc) (m_bg) (m_bs) (m_be) (m_b0) (m_b1) (m_cm) (m_hc))) := e224
                have hP := hP.put h_mo e224 o225 (trivial) rfl
                refine lv_goto (tgt := 162) hx hb dX13_scan_186 (by decide) ?_
                exact ih162 _ (by omega) _ _ _ ls  (y217) rfl hZ hP e224 (by omega) (by omega) (lv_sub hl [0, 1] rfl)
        · have c34 : ¬ (r30).toInt = (0 : Int) := fun h9 => c34 (hq_eqi.mpr h9)
          have fx226 : V27 (mo) = some (.inr (13, hm_o q (m_tp) (m_sz) (bh9) (y18) (m_hd) (m_ft) (m_fa) (m_le) (m_fo) (m_as) (m_fd) (m_bc) (m_bg) (m_bs) (m_be) (m_b0) (m_b1) (m_cm) (m_hc))) := (hq31.2 (mo) _ h_mo rfl).trans (e25)
          suffices lp103 : ∀ (k9 : Nat) (V9 : hp_V) (H9 : Heap) (locs9 : List Loc) (ls : Array Slot)  (bh8 : Int32), (5000 - bh8.toInt).toNat = k9 → hp_Z D cs B s V9 H9 n locs9 → hq_P cs G (fun g => g.1 == 1) V V9 → V9 (mo) = some (.inr (13, hm_o q (m_tp) (m_sz) (bh9) (bh8) (m_hd) (m_ft) (m_fa) (m_le) (m_fo) (m_as) (m_fd) (m_bc) (m_bg) (m_bs) (m_be) (m_b0) (m_b1) (m_cm) (m_hc))) → bh9.toInt + 1 ≤ bh8.toInt → bh8.toInt ≤ m_sz.toInt → lv_has ls 3 [(1, .int (r12)), (0, .ref (mo))] → W p l e ({ frames := 2, cells := 0, slots := 0, locals := 42 }) s m ([.ref (mo)] : List Value).toArray below meth c H9 locs9 0 0 (MQ below (hp_QV D cs B (fun V' n' => n = n' ∧ hq_P cs G (fun g => g.1 == 1) V V' ∧ (∃ (m_fr1 : Int32) (m_bh1 : Int32) (m_hd1 : Int32), V' mo = some (.inr (13, hm_o q (m_tp) (m_sz) (m_fr1) (m_bh1) (m_hd1) (m_ft) (m_fa) (m_le) (m_fo) (m_as) (m_fd) (m_bc) (m_bg) (m_bs) (m_be) (m_b0) (m_b1) (m_cm) (m_hc))) ∧ (m_bh.toInt ≤ m_bh1.toInt) ∧ (hm_Up m_bh m_bh1 m_hd1) ∧ (hm_SC m_sz m_fr1 m_bh1 m_hd1)))) ([.ref (mo)] : List Value).toArray s 0 0 (hp_F B)) (F0 m 103 ls []) from lp103 _ _ _ _ ls  (y18) rfl hZ hP fx226 (by omega) (by omega) (lv_sub hl [0, 1] rfl)
          intro k9
          induction k9 using Nat.strongRecOn with
          | _ k9 ih103 =>
            intro V9 H9 locs9 ls  bh8 hk103 hZ hP ho227 hv228 hv229 hl
            have hb_bh8 := hq_rng bh8
            have hP_103 := hP
            refine lv_aload_n hx hb dX13_scan_103 rfl (lv_at hl 1 rfl) ?_
            refine lv_aload_n hx hb dX13_scan_104 rfl (lv_at hl 1 rfl) ?_
            refine hp_get (v := .int (bh8)) hx hb hts hown hZ ho227 fl_X13_76 rfl dX13_scan_105 ?_
            refine hp_calli (hp_runV (As := [.int (bh8)]) (rest := []) hx hb hml hown hts (t_X13_byteAt l D cs B G  V9 n hP.1 q hR (mo) h_mo (bh8) ho227  (by omega) (by omega) (by omega) (by omega) (by omega) (by omega) (by omega) (by omega) (by omega)) hZ ho227 cv_X13_79 rfl rfl ⟨Nat.le_of_ble_eq_true rfl, Nat.le_of_ble_eq_true rfl⟩ rfl hl.1 rfl (Nat.le_of_ble_eq_true rfl) dX13_scan_108 ⟨(Nat.le_of_ble_eq_true rfl), (Nat.le_of_ble_eq_true rfl)⟩) hZ (fun r233 V230 n231 _ _ hw232 hZ => ?_)
            obtain ⟨rfl, hq234, ho236, hr235⟩ := hw232
            have hP := hP.trans hq234 (fun _ _ => rfl)
            have b237 := hq_rng r233
            refine hp_calli (hp_runS (As := [.int (r233)]) (rest := []) hx hb hml hown hts (t_X13_isSmall l D cs B G  V230 n hP.1  (r233) ) hZ cv_X13_86 rfl rfl ⟨Nat.le_of_ble_eq_true rfl, Nat.le_of_ble_eq_true rfl⟩ rfl hl.1 rfl (Nat.le_of_ble_eq_true rfl) dX13_scan_111 ⟨(Nat.le_of_ble_eq_true rfl), (Nat.le_of_ble_eq_true rfl)⟩) hZ (fun r241 V238 n239 _ _ hw240 hZ => ?_)
            obtain ⟨rfl, hq242, hr243⟩ := hw240
            have hP := hP.trans hq242 (fun _ _ => rfl)
            have b244 := hq_rng r241
            refine lv_if_eq (tgt := 130) hx hb dX13_scan_114 (by decide) (fun c245 => ?_) (fun c245 => ?_)
            · have c245 : (r241).toInt = (0 : Int) := hq_eqi.mp c245
              refine lv_aload_n hx hb dX13_scan_130 rfl (lv_at hl 1 rfl) ?_
              refine lv_aload_n hx hb dX13_scan_131 rfl (lv_at hl 1 rfl) ?_
              have fx246 : V238 (mo) = some (.inr (13, hm_o q (m_tp) (m_sz) (bh9) (bh8) (m_hd) (m_ft) (m_fa) (m_le) (m_fo) (m_as) (m_fd) (m_bc) (m_bg) (m_bs) (m_be) (m_b0) (m_b1) (m_cm) (m_hc))) := (hq242.2 (mo) _ h_mo rfl).trans (ho236)
              refine hp_get (v := .int (bh8)) hx hb hts hown hZ fx246 fl_X13_76 rfl dX13_scan_132 ?_
              refine lv_aload_n hx hb dX13_scan_135 rfl (lv_at hl 1 rfl) ?_
              refine hp_get (v := .int (bh9)) hx hb hts hown hZ fx246 fl_X13_60 rfl dX13_scan_136 ?_
              refine lv_isub hx hb dX13_scan_139 ?_
              refine lv_topi (fun y247 ey248 => ?_)
              obtain ⟨k249, hk250, b251, b252⟩ := hq_sub (bh8) (bh9)
              rw [← ey248] at hk250 b251 b252
              have hk250 : (y247).toInt = (bh8).toInt - (bh9).toInt + k249 * 4294967296 := hk250
              obtain rfl : k249 = 0 := by omega
              refine lv_bipush (v := 12) hx hb dX13_scan_140 (by decide) ?_
              refine lv_icmp_le (tgt := 149) hx hb dX13_scan_142 (by decide) (fun c253 => ?_) (fun c253 => ?_)
              · have c253 : (y247).toInt ≤ (12 : Int) := hq_lei.mp c253
                refine lv_iconst (v := 1) hx hb dX13_scan_149 (by decide) ?_
                refine hp_put hx hb hts hown hZ fx246 fp_X13_83 rfl rfl (Nat.le_of_ble_eq_true rfl) dX13_scan_150 (fun V254 _ _ e255 o256 hZ => ?_)
                have e255 : V254 (mo) = some (.inr (13, hm_o q (m_tp) (m_sz) (bh9) (bh8) (1) (m_ft) (m_fa) (m_le) (m_fo) (m_as) (m_fd) (m_bc) (m_bg) (m_bs) (m_be) (m_b0) (m_b1) (m_cm) (m_hc))) := e255
                have hP := hP.put h_mo e255 o256 (trivial) rfl
                refine lv_goto (tgt := 320) hx hb dX13_scan_153 (by decide) ?_
                have hl257 : (1 : Int32).toInt = 1 := by decide
                exact hp_vret hx hb hr hlocks hZ ⟨rfl, hP, ⟨bh9, bh8, 1, e255, by omega, show _ ∨ _ by omega, ⟨by omega, by omega, by omega, by omega, by omega, by omega, by omega⟩⟩⟩ dX13_scan_320
              · have c253 : ¬ (y247).toInt ≤ (12 : Int) := fun h9 => c253 (hq_lei.mpr h9)
                refine lv_iconst (v := 5) hx hb dX13_scan_145 (by decide) ?_
                refine lv_goto (tgt := 150) hx hb dX13_scan_146 (by decide) ?_
                refine hp_put hx hb hts hown hZ fx246 fp_X13_83 rfl rfl (Nat.le_of_ble_eq_true rfl) dX13_scan_150 (fun V258 _ _ e259 o260 hZ => ?_)
                have e259 : V258 (mo) = some (.inr (13, hm_o q (m_tp) (m_sz) (bh9) (bh8) (5) (m_ft) (m_fa) (m_le) (m_fo) (m_as) (m_fd) (m_bc) (m_bg) (m_bs) (m_be) (m_b0) (m_b1) (m_cm) (m_hc))) := e259
                have hP := hP.put h_mo e259 o260 (trivial) rfl
                refine lv_goto (tgt := 320) hx hb dX13_scan_153 (by decide) ?_
                have hl261 : (5 : Int32).toInt = 5 := by decide
                exact hp_vret hx hb hr hlocks hZ ⟨rfl, hP, ⟨bh9, bh8, 5, e259, by omega, show _ ∨ _ by omega, ⟨by omega, by omega, by omega, by omega, by omega, by omega, by omega⟩⟩⟩ dX13_scan_320
            · have c245 : ¬ (r241).toInt = (0 : Int) := fun h9 => c245 (hq_eqi.mpr h9)
              refine lv_aload_n hx hb dX13_scan_117 rfl (lv_at hl 1 rfl) ?_
              refine lv_dup hx hb dX13_scan_118 rfl ?_
              have fx262 : V238 (mo) = some (.inr (13, hm_o q (m_tp) (m_sz) (bh9) (bh8) (m_hd) (m_ft) (m_fa) (m_le) (m_fo) (m_as) (m_fd) (m_bc) (m_bg) (m_bs) (m_be) (m_b0) (m_b1) (m_cm) (m_hc))) := (hq242.2 (mo) _ h_mo rfl).trans (ho236)
              refine hp_get (v := .int (bh8)) hx hb hts hown hZ fx262 fl_X13_76 rfl dX13_scan_119 ?_
              refine lv_iconst (v := 1) hx hb dX13_scan_122 (by decide) ?_
              refine lv_iadd hx hb dX13_scan_123 ?_
              refine lv_topi (fun y263 ey264 => ?_)
              obtain ⟨k265, hk266, b267, b268⟩ := hq_add (bh8) (1)
              rw [← ey264] at hk266 b267 b268
              have hk266 : (y263).toInt = (bh8).toInt + (1 : Int) + k265 * 4294967296 := hk266
              obtain rfl : k265 = 0 := by omega
              refine hp_put hx hb hts hown hZ fx262 fp_X13_76 rfl rfl (Nat.le_of_ble_eq_true rfl) dX13_scan_124 (fun V269 _ _ e270 o271 hZ => ?_)
              have e270 : V269 (mo) = some (.inr (13, hm_o q (m_tp) (m_sz) (bh9) (y263) (m_hd) (m_ft) (m_fa) (m_le) (m_fo) (m_as) (m_fd) (m_bc) (m_bg) (m_bs) (m_be) (m_b0) (m_b1) (m_cm) (m_hc))) := e270
              have hP := hP.put h_mo e270 o271 (trivial) rfl
              refine lv_goto (tgt := 103) hx hb dX13_scan_127 (by decide) ?_
              exact ih103 _ (by omega) _ _ _ ls  (y263) rfl hZ hP e270 (by omega) (by omega) (lv_sub hl [0, 1] rfl)
      · have c17 : (bh9).toInt = (m_sz).toInt := hq_eqi.mp c17
        refine lv_aload_n hx hb dX13_scan_80 rfl (lv_at hl 1 rfl) ?_
        refine lv_iconst (v := 0) hx hb dX13_scan_81 (by decide) ?_
        refine hp_put hx hb hts hown hZ ho15 fp_X13_83 rfl rfl (Nat.le_of_ble_eq_true rfl) dX13_scan_82 (fun V272 _ _ e273 o274 hZ => ?_)
        have e273 : V272 (mo) = some (.inr (13, hm_o q (m_tp) (m_sz) (bh9) (bh9) (0) (m_ft) (m_fa) (m_le) (m_fo) (m_as) (m_fd) (m_bc) (m_bg) (m_bs) (m_be) (m_b0) (m_b1) (m_cm) (m_hc))) := e273
        have hP := hP.put h_mo e273 o274 (trivial) rfl
        have hl275 : (0 : Int32).toInt = 0 := by decide
        exact hp_vret hx hb hr hlocks hZ ⟨rfl, hP, ⟨bh9, bh9, 0, e273, by omega, show _ ∨ _ by omega, ⟨by omega, by omega, by omega, by omega, by omega, by omega, by omega⟩⟩⟩ dX13_scan_85
    · have c5 : ¬ (m_sz).toInt ≤ (bh9).toInt := fun h9 => c5 (hq_lei.mpr h9)
      refine lv_aload_n hx hb dX13_scan_11 rfl (lv_at hl 0 rfl) ?_
      refine hp_get (v := .ref (q + 20)) hx hb hts hown hZ ho1 fl_X13_73 rfl dX13_scan_12 ?_
      refine lv_aload_n hx hb dX13_scan_15 rfl (lv_at hl 0 rfl) ?_
      refine hp_get (v := .int (bh9)) hx hb hts hown hZ ho1 fl_X13_76 rfl dX13_scan_16 ?_
      obtain ⟨hN278, g277, eV276⟩ := hq_o20 hP.1 (hr_20 hR)
      refine hp_bald hx hb hZ eV276 (hq_in (by omega) (by omega)) dX13_scan_19 ?_
      refine lv_topi (fun y280 ey281 => ?_)
      have b282 := hq_rng y280
      refine lv_bipush (v := 32) hx hb dX13_scan_20 (by decide) ?_
      refine lv_icmp_eq (tgt := 39) hx hb dX13_scan_22 (by decide) (fun c283 => ?_) (fun c283 => ?_)
      · have c283 : (y280).toInt = (32 : Int) := hq_eqi.mp c283
        refine lv_aload_n hx hb dX13_scan_39 rfl (lv_at hl 0 rfl) ?_
        refine lv_dup hx hb dX13_scan_40 rfl ?_
        refine hp_get (v := .int (bh9)) hx hb hts hown hZ ho1 fl_X13_76 rfl dX13_scan_41 ?_
        refine lv_iconst (v := 1) hx hb dX13_scan_44 (by decide) ?_
        refine lv_iadd hx hb dX13_scan_45 ?_
        refine lv_topi (fun y284 ey285 => ?_)
        obtain ⟨k286, hk287, b288, b289⟩ := hq_add (bh9) (1)
        rw [← ey285] at hk287 b288 b289
        have hk287 : (y284).toInt = (bh9).toInt + (1 : Int) + k286 * 4294967296 := hk287
        obtain rfl : k286 = 0 := by omega
        refine hp_put hx hb hts hown hZ ho1 fp_X13_76 rfl rfl (Nat.le_of_ble_eq_true rfl) dX13_scan_46 (fun V290 _ _ e291 o292 hZ => ?_)
        have e291 : V290 (mo) = some (.inr (13, hm_o q (m_tp) (m_sz) (m_fr) (y284) (m_hd) (m_ft) (m_fa) (m_le) (m_fo) (m_as) (m_fd) (m_bc) (m_bg) (m_bs) (m_be) (m_b0) (m_b1) (m_cm) (m_hc))) := e291
        have hP := hP.put h_mo e291 o292 (trivial) rfl
        refine lv_goto (tgt := 0) hx hb dX13_scan_49 (by decide) ?_
        exact ih0 _ (by omega) _ _ _ ls  (y284) rfl hZ hP e291 (by omega) (by omega) (by omega) (lv_sub hl [0] rfl)
      · have c283 : ¬ (y280).toInt = (32 : Int) := fun h9 => c283 (hq_eqi.mpr h9)
        refine lv_aload_n hx hb dX13_scan_25 rfl (lv_at hl 0 rfl) ?_
        refine hp_get (v := .ref (q + 20)) hx hb hts hown hZ ho1 fl_X13_73 rfl dX13_scan_26 ?_
        refine lv_aload_n hx hb dX13_scan_29 rfl (lv_at hl 0 rfl) ?_
        refine hp_get (v := .int (bh9)) hx hb hts hown hZ ho1 fl_X13_76 rfl dX13_scan_30 ?_
        refine hp_bald hx hb hZ eV276 (hq_in (by omega) (by omega)) dX13_scan_33 ?_
        refine lv_topi (fun y293 ey294 => ?_)
        have b295 := hq_rng y293
        refine lv_bipush (v := 10) hx hb dX13_scan_34 (by decide) ?_
        refine lv_icmp_ne (tgt := 52) hx hb dX13_scan_36 (by decide) (fun c296 => ?_) (fun c296 => ?_)
        · have c296 : ¬ (y293).toInt = (10 : Int) := fun h9 => c296 (hq_eqi.mpr h9)
          refine lv_aload_n hx hb dX13_scan_52 rfl (lv_at hl 0 rfl) ?_
          refine lv_aload_n hx hb dX13_scan_53 rfl (lv_at hl 0 rfl) ?_
          refine hp_get (v := .int (bh9)) hx hb hts hown hZ ho1 fl_X13_76 rfl dX13_scan_54 ?_
          refine hp_put hx hb hts hown hZ ho1 fp_X13_60 rfl rfl (Nat.le_of_ble_eq_true rfl) dX13_scan_57 (fun V297 _ _ e298 o299 hZ => ?_)
          have e298 : V297 (mo) = some (.inr (13, hm_o q (m_tp) (m_sz) (bh9) (bh9) (m_hd) (m_ft) (m_fa) (m_le) (m_fo) (m_as) (m_fd) (m_bc) (m_bg) (m_bs) (m_be) (m_b0) (m_b1) (m_cm) (m_hc))) := e298
          have hP := hP.put h_mo e298 o299 (trivial) rfl
          refine lv_aload_n hx hb dX13_scan_60 rfl (lv_at hl 0 rfl) ?_
          refine lv_aload_n hx hb dX13_scan_61 rfl (lv_at hl 0 rfl) ?_
          refine hp_get (v := .int (bh9)) hx hb hts hown hZ e298 fl_X13_60 rfl dX13_scan_62 ?_
          refine hp_calli (hp_runV (As := [.int (bh9)]) (rest := []) hx hb hml hown hts (t_X13_byteAt l D cs B G  V297 n hP.1 q hR (mo) h_mo (bh9) e298  (by omega) (by omega) (by omega) (by omega) (by omega) (by omega) (by omega) (by omega) (by omega)) hZ e298 cv_X13_79 rfl rfl ⟨Nat.le_of_ble_eq_true rfl, Nat.le_of_ble_eq_true rfl⟩ rfl hl.1 rfl (Nat.le_of_ble_eq_true rfl) dX13_scan_65 ⟨(Nat.le_of_ble_eq_true rfl), (Nat.le_of_ble_eq_true rfl)⟩) hZ (fun r303 V300 n301 _ _ hw302 hZ => ?_)
          obtain ⟨rfl, hq304, ho306, hr305⟩ := hw302
          have hP := hP.trans hq304 (fun _ _ => rfl)
          have b307 := hq_rng r303
          refine lv_istore_n (lv' := [(1, .int (r303)), (0, .ref (mo))]) hx hb dX13_scan_68 rfl hl (by decide) rfl (fun ls hl => ?_)
          refine lv_aload_n hx hb dX13_scan_69 rfl (lv_at hl 1 rfl) ?_
          refine hp_get (v := .int (bh9)) hx hb hts hown hZ ho306 fl_X13_60 rfl dX13_scan_70 ?_
          refine lv_aload_n hx hb dX13_scan_73 rfl (lv_at hl 1 rfl) ?_
          refine hp_get (v := .int (m_sz)) hx hb hts hown hZ ho306 fl_X13_70 rfl dX13_scan_74 ?_
          refine lv_icmp_ne (tgt := 86) hx hb dX13_scan_77 (by decide) (fun c308 => ?_) (fun c308 => ?_)
          · have c308 : ¬ (bh9).toInt = (m_sz).toInt := fun h9 => c308 (hq_eqi.mpr h9)
            refine lv_aload_n hx hb dX13_scan_86 rfl (lv_at hl 1 rfl) ?_
            refine lv_dup hx hb dX13_scan_87 rfl ?_
            refine hp_get (v := .int (bh9)) hx hb hts hown hZ ho306 fl_X13_76 rfl dX13_scan_88 ?_
            refine lv_iconst (v := 1) hx hb dX13_scan_91 (by decide) ?_
            refine lv_iadd hx hb dX13_scan_92 ?_
            refine lv_topi (fun y309 ey310 => ?_)
            obtain ⟨k311, hk312, b313, b314⟩ := hq_add (bh9) (1)
            rw [← ey310] at hk312 b313 b314
            have hk312 : (y309).toInt = (bh9).toInt + (1 : Int) + k311 * 4294967296 := hk312
            obtain rfl : k311 = 0 := by omega
            refine hp_put hx hb hts hown hZ ho306 fp_X13_76 rfl rfl (Nat.le_of_ble_eq_true rfl) dX13_scan_93 (fun V315 _ _ e316 o317 hZ => ?_)
            have e316 : V315 (mo) = some (.inr (13, hm_o q (m_tp) (m_sz) (bh9) (y309) (m_hd) (m_ft) (m_fa) (m_le) (m_fo) (m_as) (m_fd) (m_bc) (m_bg) (m_bs) (m_be) (m_b0) (m_b1) (m_cm) (m_hc))) := e316
            have hP := hP.put h_mo e316 o317 (trivial) rfl
            refine lv_iload_n hx hb dX13_scan_96 rfl (lv_at hl 0 rfl) ?_
            refine hp_calli (hp_runS (As := [.int (r303)]) (rest := []) hx hb hml hown hts (t_X13_isSmall l D cs B G  V315 n hP.1  (r303) ) hZ cv_X13_86 rfl rfl ⟨Nat.le_of_ble_eq_true rfl, Nat.le_of_ble_eq_true rfl⟩ rfl hl.1 rfl (Nat.le_of_ble_eq_true rfl) dX13_scan_97 ⟨(Nat.le_of_ble_eq_true rfl), (Nat.le_of_ble_eq_true rfl)⟩) hZ (fun r321 V318 n319 _ _ hw320 hZ => ?_)
            obtain ⟨rfl, hq322, hr323⟩ := hw320
            have hP := hP.trans hq322 (fun _ _ => rfl)
            have b324 := hq_rng r321
            refine lv_if_eq (tgt := 156) hx hb dX13_scan_100 (by decide) (fun c325 => ?_) (fun c325 => ?_)
            · have c325 : (r321).toInt = (0 : Int) := hq_eqi.mp c325
              refine lv_iload_n hx hb dX13_scan_156 rfl (lv_at hl 0 rfl) ?_
              refine lv_bipush (v := 39) hx hb dX13_scan_157 (by decide) ?_
              refine lv_icmp_ne (tgt := 248) hx hb dX13_scan_159 (by decide) (fun c326 => ?_) (fun c326 => ?_)
              · have c326 : ¬ (r303).toInt = (39 : Int) := fun h9 => c326 (hq_eqi.mpr h9)
                refine lv_iload_n hx hb dX13_scan_248 rfl (lv_at hl 0 rfl) ?_
                refine hp_calli (hp_runS (As := [.int (r303)]) (rest := []) hx hb hml hown hts (t_X13_isFigure l D cs B G  V318 n hP.1  (r303) ) hZ cv_X13_90 rfl rfl ⟨Nat.le_of_ble_eq_true rfl, Nat.le_of_ble_eq_true rfl⟩ rfl hl.1 rfl (Nat.le_of_ble_eq_true rfl) dX13_scan_249 ⟨(Nat.le_of_ble_eq_true rfl), (Nat.le_of_ble_eq_true rfl)⟩) hZ (fun r330 V327 n328 _ _ hw329 hZ => ?_)
                obtain ⟨rfl, hq331, hr332⟩ := hw329
                have hP := hP.trans hq331 (fun _ _ => rfl)
                have b333 := hq_rng r330
                refine lv_istore_n (lv' := [(2, .int (r330)), (1, .int (r303)), (0, .ref (mo))]) hx hb dX13_scan_252 rfl hl (by decide) rfl (fun ls hl => ?_)
                have fx334 : V327 (mo) = some (.inr (13, hm_o q (m_tp) (m_sz) (bh9) (y309) (m_hd) (m_ft) (m_fa) (m_le) (m_fo) (m_as) (m_fd) (m_bc) (m_bg) (m_bs) (m_be) (m_b0) (m_b1) (m_cm) (m_hc))) := (hq331.2 (mo) _ h_mo rfl).trans ((hq322.2 (mo) _ h_mo rfl).trans (e316))
                suffices lp253 : ∀ (k9 : Nat) (V9 : hp_V) (H9 : Heap) (locs9 : List Loc) (ls : Array Slot)  (bh8 : Int32), (5000 - bh8.toInt).toNat = k9 → hp_Z D cs B s V9 H9 n locs9 → hq_P cs G (fun g => g.1 == 1) V V9 → V9 (mo) = some (.inr (13, hm_o q (m_tp) (m_sz) (bh9) (bh8) (m_hd) (m_ft) (m_fa) (m_le) (m_fo) (m_as) (m_fd) (m_bc) (m_bg) (m_bs) (m_be) (m_b0) (m_b1) (m_cm) (m_hc))) → bh9.toInt + 1 ≤ bh8.toInt → bh8.toInt ≤ m_sz.toInt → lv_has ls 3 [(2, .int (r330)), (1, .int (r303)), (0, .ref (mo))] → W p l e ({ frames := 2, cells := 0, slots := 0, locals := 42 }) s m ([.ref (mo)] : List Value).toArray below meth c H9 locs9 0 0 (MQ below (hp_QV D cs B (fun V' n' => n = n' ∧ hq_P cs G (fun g => g.1 == 1) V V' ∧ (∃ (m_fr1 : Int32) (m_bh1 : Int32) (m_hd1 : Int32), V' mo = some (.inr (13, hm_o q (m_tp) (m_sz) (m_fr1) (m_bh1) (m_hd1) (m_ft) (m_fa) (m_le) (m_fo) (m_as) (m_fd) (m_bc) (m_bg) (m_bs) (m_be) (m_b0) (m_b1) (m_cm) (m_hc))) ∧ (m_bh.toInt ≤ m_bh1.toInt) ∧ (hm_Up m_bh m_bh1 m_hd1) ∧ (hm_SC m_sz m_fr1 m_bh1 m_hd1)))) ([.ref (mo)] : List Value).toArray s 0 0 (hp_F B)) (F0 m 253 ls []) from lp253 _ _ _ _ ls  (y309) rfl hZ hP fx334 (by omega) (by omega) (lv_sub hl [0, 1, 2] rfl)
                intro k9
                induction k9 using Nat.strongRecOn with
                | _ k9 ih253 =>
                  intro V9 H9 locs9 ls  bh8 hk253 hZ hP ho335 hv336 hv337 hl
                  have hb_bh8 := hq_rng bh8
                  have hP_253 := hP
                  refine lv_iload_n hx hb dX13_scan_253 rfl (lv_at hl 0 rfl) ?_
                  refine lv_if_eq (tgt := 284) hx hb dX13_scan_254 (by decide) (fun c338 => ?_) (fun c338 => ?_)
                  · have c338 : (r330).toInt = (0 : Int) := hq_eqi.mp c338
                    refine lv_aload_n hx hb dX13_scan_284 rfl (lv_at hl 2 rfl) ?_
                    refine lv_iload_n hx hb dX13_scan_285 rfl (lv_at hl 0 rfl) ?_
                    refine lv_if_eq (tgt := 306) hx hb dX13_scan_286 (by decide) (fun c339 => ?_) (fun c339 => ?_)
                    · have c339 : (r330).toInt = (0 : Int) := hq_eqi.mp c339
                      refine lv_iload_n hx hb dX13_scan_306 rfl (lv_at hl 1 rfl) ?_
                      refine lv_bipush (v := 59) hx hb dX13_scan_307 (by decide) ?_
                      refine lv_icmp_ne (tgt := 316) hx hb dX13_scan_309 (by decide) (fun c340 => ?_) (fun c340 => ?_)
                      · have c340 : ¬ (r303).toInt = (59 : Int) := fun h9 => c340 (hq_eqi.mpr h9)
                        refine lv_iconst (v := 5) hx hb dX13_scan_316 (by decide) ?_
                        refine hp_put hx hb hts hown hZ ho335 fp_X13_83 rfl rfl (Nat.le_of_ble_eq_true rfl) dX13_scan_317 (fun V341 _ _ e342 o343 hZ => ?_)
                        have e342 : V341 (mo) = some (.inr (13, hm_o q (m_tp) (m_sz) (bh9) (bh8) (5) (m_ft) (m_fa) (m_le) (m_fo) (m_as) (m_fd) (m_bc) (m_bg) (m_bs) (m_be) (m_b0) (m_b1) (m_cm) (m_hc))) := e342
                        have hP := hP.put h_mo e342 o343 (trivial) rfl
                        have hl344 : (5 : Int32).toInt = 5 := by decide
                        exact hp_vret hx hb hr hlocks hZ ⟨rfl, hP, ⟨bh9, bh8, 5, e342, by omega, show _ ∨ _ by omega, ⟨by omega, by omega, by omega, by omega, by omega, by omega, by omega⟩⟩⟩ dX13_scan_320
                      · have c340 : (r303).toInt = (59 : Int) := hq_eqi.mp c340
                        refine lv_iconst (v := 4) hx hb dX13_scan_312 (by decide) ?_
                        refine lv_goto (tgt := 317) hx hb dX13_scan_313 (by decide) ?_
                        refine hp_put hx hb hts hown hZ ho335 fp_X13_83 rfl rfl (Nat.le_of_ble_eq_true rfl) dX13_scan_317 (fun V345 _ _ e346 o347 hZ => ?_)
                        have e346 : V345 (mo) = some (.inr (13, hm_o q (m_tp) (m_sz) (bh9) (bh8) (4) (m_ft) (m_fa) (m_le) (m_fo) (m_as) (m_fd) (m_bc) (m_bg) (m_bs) (m_be) (m_b0) (m_b1) (m_cm) (m_hc))) := e346
                        have hP := hP.put h_mo e346 o347 (trivial) rfl
                        have hl348 : (4 : Int32).toInt = 4 := by decide
                        exact hp_vret hx hb hr hlocks hZ ⟨rfl, hP, ⟨bh9, bh8, 4, e346, by omega, show _ ∨ _ by omega, ⟨by omega, by omega, by omega, by omega, by omega, by omega, by omega⟩⟩⟩ dX13_scan_320
                    · have c339 : ¬ (r330).toInt = (0 : Int) := fun h9 => c339 (hq_eqi.mpr h9)
                      refine lv_aload_n hx hb dX13_scan_289 rfl (lv_at hl 2 rfl) ?_
                      refine hp_get (v := .int (bh8)) hx hb hts hown hZ ho335 fl_X13_76 rfl dX13_scan_290 ?_
                      refine lv_aload_n hx hb dX13_scan_293 rfl (lv_at hl 2 rfl) ?_
                      refine hp_get (v := .int (bh9)) hx hb hts hown hZ ho335 fl_X13_60 rfl dX13_scan_294 ?_
                      refine lv_isub hx hb dX13_scan_297 ?_
                      refine lv_topi (fun y349 ey350 => ?_)
                      obtain ⟨k351, hk352, b353, b354⟩ := hq_sub (bh8) (bh9)
                      rw [← ey350] at hk352 b353 b354
                      have hk352 : (y349).toInt = (bh8).toInt - (bh9).toInt + k351 * 4294967296 := hk352
                      obtain rfl : k351 = 0 := by omega
                      refine lv_iconst (v := 1) hx hb dX13_scan_298 (by decide) ?_
                      refine lv_icmp_ne (tgt := 306) hx hb dX13_scan_299 (by decide) (fun c355 => ?_) (fun c355 => ?_)
                      · have c355 : ¬ (y349).toInt = (1 : Int) := fun h9 => c355 (hq_eqi.mpr h9)
                        refine lv_iload_n hx hb dX13_scan_306 rfl (lv_at hl 1 rfl) ?_
                        refine lv_bipush (v := 59) hx hb dX13_scan_307 (by decide) ?_
                        refine lv_icmp_ne (tgt := 316) hx hb dX13_scan_309 (by decide) (fun c356 => ?_) (fun c356 => ?_)
                        · have c356 : ¬ (r303).toInt = (59 : Int) := fun h9 => c356 (hq_eqi.mpr h9)
                          refine lv_iconst (v := 5) hx hb dX13_scan_316 (by decide) ?_
                          refine hp_put hx hb hts hown hZ ho335 fp_X13_83 rfl rfl (Nat.le_of_ble_eq_true rfl) dX13_scan_317 (fun V357 _ _ e358 o359 hZ => ?_)
                          have e358 : V357 (mo) = some (.inr (13, hm_o q (m_tp) (m_sz) (bh9) (bh8) (5) (m_ft) (m_fa) (m_le) (m_fo) (m_as) (m_fd) (m_bc) (m_bg) (m_bs) (m_be) (m_b0) (m_b1) (m_cm) (m_hc))) := e358
                          have hP := hP.put h_mo e358 o359 (trivial) rfl
                          have hl360 : (5 : Int32).toInt = 5 := by decide
                          exact hp_vret hx hb hr hlocks hZ ⟨rfl, hP, ⟨bh9, bh8, 5, e358, by omega, show _ ∨ _ by omega, ⟨by omega, by omega, by omega, by omega, by omega, by omega, by omega⟩⟩⟩ dX13_scan_320
                        · have c356 : (r303).toInt = (59 : Int) := hq_eqi.mp c356
                          refine lv_iconst (v := 4) hx hb dX13_scan_312 (by decide) ?_
                          refine lv_goto (tgt := 317) hx hb dX13_scan_313 (by decide) ?_
                          refine hp_put hx hb hts hown hZ ho335 fp_X13_83 rfl rfl (Nat.le_of_ble_eq_true rfl) dX13_scan_317 (fun V361 _ _ e362 o363 hZ => ?_)
                          have e362 : V361 (mo) = some (.inr (13, hm_o q (m_tp) (m_sz) (bh9) (bh8) (4) (m_ft) (m_fa) (m_le) (m_fo) (m_as) (m_fd) (m_bc) (m_bg) (m_bs) (m_be) (m_b0) (m_b1) (m_cm) (m_hc))) := e362
                          have hP := hP.put h_mo e362 o363 (trivial) rfl
                          have hl364 : (4 : Int32).toInt = 4 := by decide
                          exact hp_vret hx hb hr hlocks hZ ⟨rfl, hP, ⟨bh9, bh8, 4, e362, by omega, show _ ∨ _ by omega, ⟨by omega, by omega, by omega, by omega, by omega, by omega, by omega⟩⟩⟩ dX13_scan_320
                      · have c355 : (y349).toInt = (1 : Int) := hq_eqi.mp c355
                        refine lv_iconst (v := 2) hx hb dX13_scan_302 (by decide) ?_
                        refine lv_goto (tgt := 317) hx hb dX13_scan_303 (by decide) ?_
                        refine hp_put hx hb hts hown hZ ho335 fp_X13_83 rfl rfl (Nat.le_of_ble_eq_true rfl) dX13_scan_317 (fun V365 _ _ e366 o367 hZ => ?_)
                        have e366 : V365 (mo) = some (.inr (13, hm_o q (m_tp) (m_sz) (bh9) (bh8) (2) (m_ft) (m_fa) (m_le) (m_fo) (m_as) (m_fd) (m_bc) (m_bg) (m_bs) (m_be) (m_b0) (m_b1) (m_cm) (m_hc))) := e366
                        have hP := hP.put h_mo e366 o367 (trivial) rfl
                        have hl368 : (2 : Int32).toInt = 2 := by decide
                        exact hp_vret hx hb hr hlocks hZ ⟨rfl, hP, ⟨bh9, bh8, 2, e366, by omega, show _ ∨ _ by omega, ⟨by omega, by omega, by omega, by omega, by omega, by omega, by omega⟩⟩⟩ dX13_scan_320
                  · have c338 : ¬ (r330).toInt = (0 : Int) := fun h9 => c338 (hq_eqi.mpr h9)
                    refine lv_aload_n hx hb dX13_scan_257 rfl (lv_at hl 2 rfl) ?_
                    refine lv_aload_n hx hb dX13_scan_258 rfl (lv_at hl 2 rfl) ?_
                    refine hp_get (v := .int (bh8)) hx hb hts hown hZ ho335 fl_X13_76 rfl dX13_scan_259 ?_
                    refine hp_calli (hp_runV (As := [.int (bh8)]) (rest := []) hx hb hml hown hts (t_X13_byteAt l D cs B G  V9 n hP.1 q hR (mo) h_mo (bh8) ho335  (by omega) (by omega) (by omega) (by omega) (by omega) (by omega) (by omega) (by omega) (by omega)) hZ ho335 cv_X13_79 rfl rfl ⟨Nat.le_of_ble_eq_true rfl, Nat.le_of_ble_eq_true rfl⟩ rfl hl.1 rfl (Nat.le_of_ble_eq_true rfl) dX13_scan_262 ⟨(Nat.le_of_ble_eq_true rfl), (Nat.le_of_ble_eq_true rfl)⟩) hZ (fun r372 V369 n370 _ _ hw371 hZ => ?_)
                    obtain ⟨rfl, hq373, ho375, hr374⟩ := hw371
                    have hP := hP.trans hq373 (fun _ _ => rfl)
                    have b376 := hq_rng r372
                    refine hp_calli (hp_runS (As := [.int (r372)]) (rest := []) hx hb hml hown hts (t_X13_isFigure l D cs B G  V369 n hP.1  (r372) ) hZ cv_X13_90 rfl rfl ⟨Nat.le_of_ble_eq_true rfl, Nat.le_of_ble_eq_true rfl⟩ rfl hl.1 rfl (Nat.le_of_ble_eq_true rfl) dX13_scan_265 ⟨(Nat.le_of_ble_eq_true rfl), (Nat.le_of_ble_eq_true rfl)⟩) hZ (fun r380 V377 n378 _ _ hw379 hZ => ?_)
                    obtain ⟨rfl, hq381, hr382⟩ := hw379
                    have hP := hP.trans hq381 (fun _ _ => rfl)
                    have b383 := hq_rng r380
                    refine lv_if_eq (tgt := 284) hx hb dX13_scan_268 (by decide) (fun c384 => ?_) (fun c384 => ?_)
                    · have c384 : (r380).toInt = (0 : Int) := hq_eqi.mp c384
                      refine lv_aload_n hx hb dX13_scan_284 rfl (lv_at hl 2 rfl) ?_
                      refine lv_iload_n hx hb dX13_scan_285 rfl (lv_at hl 0 rfl) ?_
                      refine lv_if_eq (tgt := 306) hx hb dX13_scan_286 (by decide) (fun c385 => ?_) (fun c385 => ?_)
                      · have c385 : (r330).toInt = (0 : Int) := hq_eqi.mp c385
                        refine lv_iload_n hx hb dX13_scan_306 rfl (lv_at hl 1 rfl) ?_
                        refine lv_bipush (v := 59) hx hb dX13_scan_307 (by decide) ?_
                        refine lv_icmp_ne (tgt := 316) hx hb dX13_scan_309 (by decide) (fun c386 => ?_) (fun c386 => ?_)
                        · have c386 : ¬ (r303).toInt = (59 : Int) := fun h9 => c386 (hq_eqi.mpr h9)
                          refine lv_iconst (v := 5) hx hb dX13_scan_316 (by decide) ?_
                          have fx387 : V377 (mo) = some (.inr (13, hm_o q (m_tp) (m_sz) (bh9) (bh8) (m_hd) (m_ft) (m_fa) (m_le) (m_fo) (m_as) (m_fd) (m_bc) (m_bg) (m_bs) (m_be) (m_b0) (m_b1) (m_cm) (m_hc))) := (hq381.2 (mo) _ h_mo rfl).trans (ho375)
                          refine hp_put hx hb hts hown hZ fx387 fp_X13_83 rfl rfl (Nat.le_of_ble_eq_true rfl) dX13_scan_317 (fun V388 _ _ e389 o390 hZ => ?_)
                          have e389 : V388 (mo) = some (.inr (13, hm_o q (m_tp) (m_sz) (bh9) (bh8) (5) (m_ft) (m_fa) (m_le) (m_fo) (m_as) (m_fd) (m_bc) (m_bg) (m_bs) (m_be) (m_b0) (m_b1) (m_cm) (m_hc))) := e389
                          have hP := hP.put h_mo e389 o390 (trivial) rfl
                          have hl391 : (5 : Int32).toInt = 5 := by decide
                          exact hp_vret hx hb hr hlocks hZ ⟨rfl, hP, ⟨bh9, bh8, 5, e389, by omega, show _ ∨ _ by omega, ⟨by omega, by omega, by omega, by omega, by omega, by omega, by omega⟩⟩⟩ dX13_scan_320
                        · have c386 : (r303).toInt = (59 : Int) := hq_eqi.mp c386
                          refine lv_iconst (v := 4) hx hb dX13_scan_312 (by decide) ?_
                          refine lv_goto (tgt := 317) hx hb dX13_scan_313 (by decide) ?_
                          have fx392 : V377 (mo) = some (.inr (13, hm_o q (m_tp) (m_sz) (bh9) (bh8) (m_hd) (m_ft) (m_fa) (m_le) (m_fo) (m_as) (m_fd) (m_bc) (m_bg) (m_bs) (m_be) (m_b0) (m_b1) (m_cm) (m_hc))) := (hq381.2 (mo) _ h_mo rfl).trans (ho375)
                          refine hp_put hx hb hts hown hZ fx392 fp_X13_83 rfl rfl (Nat.le_of_ble_eq_true rfl) dX13_scan_317 (fun V393 _ _ e394 o395 hZ => ?_)
                          have e394 : V393 (mo) = some (.inr (13, hm_o q (m_tp) (m_sz) (bh9) (bh8) (4) (m_ft) (m_fa) (m_le) (m_fo) (m_as) (m_fd) (m_bc) (m_bg) (m_bs) (m_be) (m_b0) (m_b1) (m_cm) (m_hc))) := e394
                          have hP := hP.put h_mo e394 o395 (trivial) rfl
                          have hl396 : (4 : Int32).toInt = 4 := by decide
                          exact hp_vret hx hb hr hlocks hZ ⟨rfl, hP, ⟨bh9, bh8, 4, e394, by omega, show _ ∨ _ by omega, ⟨by omega, by omega, by omega, by omega, by omega, by omega, by omega⟩⟩⟩ dX13_scan_320
                      · have c385 : ¬ (r330).toInt = (0 : Int) := fun h9 => c385 (hq_eqi.mpr h9)
                        refine lv_aload_n hx hb dX13_scan_289 rfl (lv_at hl 2 rfl) ?_
                        have fx397 : V377 (mo) = some (.inr (13, hm_o q (m_tp) (m_sz) (bh9) (bh8) (m_hd) (m_ft) (m_fa) (m_le) (m_fo) (m_as) (m_fd) (m_bc) (m_bg) (m_bs) (m_be) (m_b0) (m_b1) (m_cm) (m_hc))) := (hq381.2 (mo) _ h_mo rfl).trans (ho375)
                        refine hp_get (v := .int (bh8)) hx hb hts hown hZ fx397 fl_X13_76 rfl dX13_scan_290 ?_
                        refine lv_aload_n hx hb dX13_scan_293 rfl (lv_at hl 2 rfl) ?_
                        refine hp_get (v := .int (bh9)) hx hb hts hown hZ fx397 fl_X13_60 rfl dX13_scan_294 ?_
                        refine lv_isub hx hb dX13_scan_297 ?_
                        refine lv_topi (fun y398 ey399 => ?_)
                        obtain ⟨k400, hk401, b402, b403⟩ := hq_sub (bh8) (bh9)
                        rw [← ey399] at hk401 b402 b403
                        have hk401 : (y398).toInt = (bh8).toInt - (bh9).toInt + k400 * 4294967296 := hk401
                        obtain rfl : k400 = 0 := by omega
                        refine lv_iconst (v := 1) hx hb dX13_scan_298 (by decide) ?_
                        refine lv_icmp_ne (tgt := 306) hx hb dX13_scan_299 (by decide) (fun c404 => ?_) (fun c404 => ?_)
                        · have c404 : ¬ (y398).toInt = (1 : Int) := fun h9 => c404 (hq_eqi.mpr h9)
                          refine lv_iload_n hx hb dX13_scan_306 rfl (lv_at hl 1 rfl) ?_
                          refine lv_bipush (v := 59) hx hb dX13_scan_307 (by decide) ?_
                          refine lv_icmp_ne (tgt := 316) hx hb dX13_scan_309 (by decide) (fun c405 => ?_) (fun c405 => ?_)
                          · have c405 : ¬ (r303).toInt = (59 : Int) := fun h9 => c405 (hq_eqi.mpr h9)
                            refine lv_iconst (v := 5) hx hb dX13_scan_316 (by decide) ?_
                            refine hp_put hx hb hts hown hZ fx397 fp_X13_83 rfl rfl (Nat.le_of_ble_eq_true rfl) dX13_scan_317 (fun V406 _ _ e407 o408 hZ => ?_)
                            have e407 : V406 (mo) = some (.inr (13, hm_o q (m_tp) (m_sz) (bh9) (bh8) (5) (m_ft) (m_fa) (m_le) (m_fo) (m_as) (m_fd) (m_bc) (m_bg) (m_bs) (m_be) (m_b0) (m_b1) (m_cm) (m_hc))) := e407
                            have hP := hP.put h_mo e407 o408 (trivial) rfl
                            have hl409 : (5 : Int32).toInt = 5 := by decide
                            exact hp_vret hx hb hr hlocks hZ ⟨rfl, hP, ⟨bh9, bh8, 5, e407, by omega, show _ ∨ _ by omega, ⟨by omega, by omega, by omega, by omega, by omega, by omega, by omega⟩⟩⟩ dX13_scan_320
                          · have c405 : (r303).toInt = (59 : Int) := hq_eqi.mp c405
                            refine lv_iconst (v := 4) hx hb dX13_scan_312 (by decide) ?_
                            refine lv_goto (tgt := 317) hx hb dX13_scan_313 (by decide) ?_
                            refine hp_put hx hb hts hown hZ fx397 fp_X13_83 rfl rfl (Nat.le_of_ble_eq_true rfl) dX13_scan_317 (fun V410 _ _ e411 o412 hZ => ?_)
                            have e411 : V410 (mo) = some (.inr (13, hm_o q (m_tp) (m_sz) (bh9) (bh8) (4) (m_ft) (m_fa) (m_le) (m_fo) (m_as) (m_fd) (m_bc) (m_bg) (m_bs) (m_be) (m_b0) (m_b1) (m_cm) (m_hc))) := e411
                            have hP := hP.put h_mo e411 o412 (trivial) rfl
                            have hl413 : (4 : Int32).toInt = 4 := by decide
                            exact hp_vret hx hb hr hlocks hZ ⟨rfl, hP, ⟨bh9, bh8, 4, e411, by omega, show _ ∨ _ by omega, ⟨by omega, by omega, by omega, by omega, by omega, by omega, by omega⟩⟩⟩ dX13_scan_320
                        · have c404 : (y398).toInt = (1 : Int) := hq_eqi.mp c404
                          refine lv_iconst (v := 2) hx hb dX13_scan_302 (by decide) ?_
                          refine lv_goto (tgt := 317) hx hb dX13_scan_303 (by decide) ?_
                          refine hp_put hx hb hts hown hZ fx397 fp_X13_83 rfl rfl (Nat.le_of_ble_eq_true rfl) dX13_scan_317 (fun V414 _ _ e415 o416 hZ => ?_)
                          have e415 : V414 (mo) = some (.inr (13, hm_o q (m_tp) (m_sz) (bh9) (bh8) (2) (m_ft) (m_fa) (m_le) (m_fo) (m_as) (m_fd) (m_bc) (m_bg) (m_bs) (m_be) (m_b0) (m_b1) (m_cm) (m_hc))) := e415
                          have hP := hP.put h_mo e415 o416 (trivial) rfl
                          have hl417 : (2 : Int32).toInt = 2 := by decide
                          exact hp_vret hx hb hr hlocks hZ ⟨rfl, hP, ⟨bh9, bh8, 2, e415, by omega, show _ ∨ _ by omega, ⟨by omega, by omega, by omega, by omega, by omega, by omega, by omega⟩⟩⟩ dX13_scan_320
                    · have c384 : ¬ (r380).toInt = (0 : Int) := fun h9 => c384 (hq_eqi.mpr h9)
                      refine lv_aload_n hx hb dX13_scan_271 rfl (lv_at hl 2 rfl) ?_
                      refine lv_dup hx hb dX13_scan_272 rfl ?_
                      have fx418 : V377 (mo) = some (.inr (13, hm_o q (m_tp) (m_sz) (bh9) (bh8) (m_hd) (m_ft) (m_fa) (m_le) (m_fo) (m_as) (m_fd) (m_bc) (m_bg) (m_bs) (m_be) (m_b0) (m_b1) (m_cm) (m_hc))) := (hq381.2 (mo) _ h_mo rfl).trans (ho375)
                      refine hp_get (v := .int (bh8)) hx hb hts hown hZ fx418 fl_X13_76 rfl dX13_scan_273 ?_
                      refine lv_iconst (v := 1) hx hb dX13_scan_276 (by decide) ?_
                      refine lv_iadd hx hb dX13_scan_277 ?_
                      refine lv_topi (fun y419 ey420 => ?_)
                      obtain ⟨k421, hk422, b423, b424⟩ := hq_add (bh8) (1)
                      rw [← ey420] at hk422 b423 b424
                      have hk422 : (y419).toInt = (bh8).toInt + (1 : Int) + k421 * 4294967296 := hk422
                      obtain rfl : k421 = 0 := by omega
                      refine hp_put hx hb hts hown hZ fx418 fp_X13_76 rfl rfl (Nat.le_of_ble_eq_true rfl) dX13_scan_278 (fun V425 _ _ e426 o427 hZ => ?_)
                      have e426 : V425 (mo) = some (.inr (13, hm_o q (m_tp) (m_sz) (bh9) (y419) (m_hd) (m_ft) (m_fa) (m_le) (m_fo) (m_as) (m_fd) (m_bc) (m_bg) (m_bs) (m_be) (m_b0) (m_b1) (m_cm) (m_hc))) := e426
                      have hP := hP.put h_mo e426 o427 (trivial) rfl
                      refine lv_goto (tgt := 253) hx hb dX13_scan_281 (by decide) ?_
                      exact ih253 _ (by omega) _ _ _ ls  (y419) rfl hZ hP e426 (by omega) (by omega) (lv_sub hl [0, 1, 2] rfl)
              · have c326 : (r303).toInt = (39 : Int) := hq_eqi.mp c326
                have fx428 : V318 (mo) = some (.inr (13, hm_o q (m_tp) (m_sz) (bh9) (y309) (m_hd) (m_ft) (m_fa) (m_le) (m_fo) (m_as) (m_fd) (m_bc) (m_bg) (m_bs) (m_be) (m_b0) (m_b1) (m_cm) (m_hc))) := (hq322.2 (mo) _ h_mo rfl).trans (e316)
                suffices lp162 : ∀ (k9 : Nat) (V9 : hp_V) (H9 : Heap) (locs9 : List Loc) (ls : Array Slot)  (bh8 : Int32), (5000 - bh8.toInt).toNat = k9 → hp_Z D cs B s V9 H9 n locs9 → hq_P cs G (fun g => g.1 == 1) V V9 → V9 (mo) = some (.inr (13, hm_o q (m_tp) (m_sz) (bh9) (bh8) (m_hd) (m_ft) (m_fa) (m_le) (m_fo) (m_as) (m_fd) (m_bc) (m_bg) (m_bs) (m_be) (m_b0) (m_b1) (m_cm) (m_hc))) → bh9.toInt + 1 ≤ bh8.toInt → bh8.toInt ≤ m_sz.toInt → lv_has ls 3 [(1, .int (r303)), (0, .ref (mo))] → W p l e ({ frames := 2, cells := 0, slots := 0, locals := 42 }) s m ([.ref (mo)] : List Value).toArray below meth c H9 locs9 0 0 (MQ below (hp_QV D cs B (fun V' n' => n = n' ∧ hq_P cs G (fun g => g.1 == 1) V V' ∧ (∃ (m_fr1 : Int32) (m_bh1 : Int32) (m_hd1 : Int32), V' mo = some (.inr (13, hm_o q (m_tp) (m_sz) (m_fr1) (m_bh1) (m_hd1) (m_ft) (m_fa) (m_le) (m_fo) (m_as) (m_fd) (m_bc) (m_bg) (m_bs) (m_be) (m_b0) (m_b1) (m_cm) (m_hc))) ∧ (m_bh.toInt ≤ m_bh1.toInt) ∧ (hm_Up m_bh m_bh1 m_hd1) ∧ (hm_SC m_sz m_fr1 m_bh1 m_hd1)))) ([.ref (mo)] : List Value).toArray s 0 0 (hp_F B)) (F0 m 162 ls []) from lp162 _ _ _ _ ls  (y309) rfl hZ hP fx428 (by omega) (by omega) (lv_sub hl [0, 1] rfl)
                intro k9
                induction k9 using Nat.strongRecOn with
                | _ k9 ih162 =>
                  intro V9 H9 locs9 ls  bh8 hk162 hZ hP ho429 hv430 hv431 hl
                  have hb_bh8 := hq_rng bh8
                  have hP_162 := hP
                  refine lv_aload_n hx hb dX13_scan_162 rfl (lv_at hl 1 rfl) ?_
                  refine lv_aload_n hx hb dX13_scan_163 rfl (lv_at hl 1 rfl) ?_
                  refine hp_get (v := .int (bh8)) hx hb hts hown hZ ho429 fl_X13_76 rfl dX13_scan_164 ?_
                  refine hp_calli (hp_runV (As := [.int (bh8)]) (rest := []) hx hb hml hown hts (t_X13_byteAt l D cs B G  V9 n hP.1 q hR (mo) h_mo (bh8) ho429  (by omega) (by omega) (by omega) (by omega) (by omega) (by omega) (by omega) (by omega) (by omega)) hZ ho429 cv_X13_79 rfl rfl ⟨Nat.le_of_ble_eq_true rfl, Nat.le_of_ble_eq_true rfl⟩ rfl hl.1 rfl (Nat.le_of_ble_eq_true rfl) dX13_scan_167 ⟨(Nat.le_of_ble_eq_true rfl), (Nat.le_of_ble_eq_true rfl)⟩) hZ (fun r435 V432 n433 _ _ hw434 hZ => ?_)
                  obtain ⟨rfl, hq436, ho438, hr437⟩ := hw434
                  have hP := hP.trans hq436 (fun _ _ => rfl)
                  have b439 := hq_rng r435
                  refine hp_calli (hp_runS (As := [.int (r435)]) (rest := []) hx hb hml hown hts (t_X13_isSmall l D cs B G  V432 n hP.1  (r435) ) hZ cv_X13_86 rfl rfl ⟨Nat.le_of_ble_eq_true rfl, Nat.le_of_ble_eq_true rfl⟩ rfl hl.1 rfl (Nat.le_of_ble_eq_true rfl) dX13_scan_170 ⟨(Nat.le_of_ble_eq_true rfl), (Nat.le_of_ble_eq_true rfl)⟩) hZ (fun r443 V440 n441 _ _ hw442 hZ => ?_)
                  obtain ⟨rfl, hq444, hr445⟩ := hw442
                  have hP := hP.trans hq444 (fun _ _ => rfl)
                  have b446 := hq_rng r443
                  refine lv_if_eq (tgt := 189) hx hb dX13_scan_173 (by decide) (fun c447 => ?_) (fun c447 => ?_)
                  · have c447 : (r443).toInt = (0 : Int) := hq_eqi.mp c447
                    refine lv_aload_n hx hb dX13_scan_189 rfl (lv_at hl 1 rfl) ?_
                    refine lv_aload_n hx hb dX13_scan_190 rfl (lv_at hl 1 rfl) ?_
                    have fx448 : V440 (mo) = some (.inr (13, hm_o q (m_tp) (m_sz) (bh9) (bh8) (m_hd) (m_ft) (m_fa) (m_le) (m_fo) (m_as) (m_fd) (m_bc) (m_bg) (m_bs) (m_be) (m_b0) (m_b1) (m_cm) (m_hc))) := (hq444.2 (mo) _ h_mo rfl).trans (ho438)
                    refine hp_get (v := .int (bh8)) hx hb hts hown hZ fx448 fl_X13_76 rfl dX13_scan_191 ?_
                    refine hp_calli (hp_runV (As := [.int (bh8)]) (rest := []) hx hb hml hown hts (t_X13_byteAt l D cs B G  V440 n hP.1 q hR (mo) h_mo (bh8) fx448  (by omega) (by omega) (by omega) (by omega) (by omega) (by omega) (by omega) (by omega) (by omega)) hZ fx448 cv_X13_79 rfl rfl ⟨Nat.le_of_ble_eq_true rfl, Nat.le_of_ble_eq_true rfl⟩ rfl hl.1 rfl (Nat.le_of_ble_eq_true rfl) dX13_scan_194 ⟨(Nat.le_of_ble_eq_true rfl), (Nat.le_of_ble_eq_true rfl)⟩) hZ (fun r452 V449 n450 _ _ hw451 hZ => ?_)
                    obtain ⟨rfl, hq453, ho455, hr454⟩ := hw451
                    have hP := hP.trans hq453 (fun _ _ => rfl)
                    have b456 := hq_rng r452
                    refine lv_bipush (v := 39) hx hb dX13_scan_197 (by decide) ?_
                    refine lv_icmp_ne (tgt := 220) hx hb dX13_scan_199 (by decide) (fun c457 => ?_) (fun c457 => ?_)
                    · have c457 : ¬ (r452).toInt = (39 : Int) := fun h9 => c457 (hq_eqi.mpr h9)
                      refine lv_iconst (v := 0) hx hb dX13_scan_220 (by decide) ?_
                      refine lv_istore_n (lv' := [(2, .int (0)), (1, .int (r303)), (0, .ref (mo))]) hx hb dX13_scan_221 rfl hl (by decide) rfl (fun ls hl => ?_)
                      refine lv_aload_n hx hb dX13_scan_222 rfl (lv_at hl 2 rfl) ?_
                      refine lv_iload_n hx hb dX13_scan_223 rfl (lv_at hl 0 rfl) ?_
                      refine lv_if_eq (tgt := 231) hx hb dX13_scan_224 (by decide) (fun c458 => ?_) (fun c458 => absurd (by decide) c458)
                      refine lv_iconst (v := 5) hx hb dX13_scan_231 (by decide) ?_
                      refine hp_put hx hb hts hown hZ ho455 fp_X13_83 rfl rfl (Nat.le_of_ble_eq_true rfl) dX13_scan_232 (fun V459 _ _ e460 o461 hZ => ?_)
                      have e460 : V459 (mo) = some (.inr (13, hm_o q (m_tp) (m_sz) (bh9) (bh8) (5) (m_ft) (m_fa) (m_le) (m_fo) (m_as) (m_fd) (m_bc) (m_bg) (m_bs) (m_be) (m_b0) (m_b1) (m_cm) (m_hc))) := e460
                      have hP := hP.put h_mo e460 o461 (trivial) rfl
                      refine lv_aload_n hx hb dX13_scan_235 rfl (lv_at hl 2 rfl) ?_
                      refine lv_dup hx hb dX13_scan_236 rfl ?_
                      refine hp_get (v := .int (bh8)) hx hb hts hown hZ e460 fl_X13_76 rfl dX13_scan_237 ?_
                      refine lv_iconst (v := 1) hx hb dX13_scan_240 (by decide) ?_
                      refine lv_iadd hx hb dX13_scan_241 ?_
                      refine lv_topi (fun y462 ey463 => ?_)
                      obtain ⟨k464, hk465, b466, b467⟩ := hq_add (bh8) (1)
                      rw [← ey463] at hk465 b466 b467
                      have hk465 : (y462).toInt = (bh8).toInt + (1 : Int) + k464 * 4294967296 := hk465
                      obtain rfl : k464 = 0 := by omega
                      refine hp_put hx hb hts hown hZ e460 fp_X13_76 rfl rfl (Nat.le_of_ble_eq_true rfl) dX13_scan_242 (fun V468 _ _ e469 o470 hZ => ?_)
                      have e469 : V468 (mo) = some (.inr (13, hm_o q (m_tp) (m_sz) (bh9) (y462) (5) (m_ft) (m_fa) (m_le) (m_fo) (m_as) (m_fd) (m_bc) (m_bg) (m_bs) (m_be) (m_b0) (m_b1) (m_cm) (m_hc))) := e469
                      have hP := hP.put h_mo e469 o470 (trivial) rfl
                      refine lv_goto (tgt := 320) hx hb dX13_scan_245 (by decide) ?_
                      have hl471 : (5 : Int32).toInt = 5 := by decide
                      exact hp_vret hx hb hr hlocks hZ ⟨rfl, hP, ⟨bh9, y462, 5, e469, by omega, show _ ∨ _ by omega, ⟨by omega, by omega, by omega, by omega, by omega, by omega, by omega⟩⟩⟩ dX13_scan_320
                    · have c457 : (r452).toInt = (39 : Int) := hq_eqi.mp c457
                      refine lv_aload_n hx hb dX13_scan_202 rfl (lv_at hl 1 rfl) ?_
                      refine hp_get (v := .int (bh8)) hx hb hts hown hZ ho455 fl_X13_76 rfl dX13_scan_203 ?_
                      refine lv_aload_n hx hb dX13_scan_206 rfl (lv_at hl 1 rfl) ?_
                      refine hp_get (v := .int (bh9)) hx hb hts hown hZ ho455 fl_X13_60 rfl dX13_scan_207 ?_
                      refine lv_isub hx hb dX13_scan_210 ?_
                      refine lv_topi (fun y472 ey473 => ?_)
                      obtain ⟨k474, hk475, b476, b477⟩ := hq_sub (bh8) (bh9)
                      rw [← ey473] at hk475 b476 b477
                      have hk475 : (y472).toInt = (bh8).toInt - (bh9).toInt + k474 * 4294967296 := hk475
                      obtain rfl : k474 = 0 := by omega
                      refine lv_bipush (v := 9) hx hb dX13_scan_211 (by decide) ?_
                      refine lv_icmp_gt (tgt := 220) hx hb dX13_scan_213 (by decide) (fun c478 => ?_) (fun c478 => ?_)
                      · have c478 : (9 : Int) < (y472).toInt := hq_lti.mp c478
                        refine lv_iconst (v := 0) hx hb dX13_scan_220 (by decide) ?_
                        refine lv_istore_n (lv' := [(2, .int (0)), (1, .int (r303)), (0, .ref (mo))]) hx hb dX13_scan_221 rfl hl (by decide) rfl (fun ls hl => ?_)
                        refine lv_aload_n hx hb dX13_scan_222 rfl (lv_at hl 2 rfl) ?_
                        refine lv_iload_n hx hb dX13_scan_223 rfl (lv_at hl 0 rfl) ?_
                        refine lv_if_eq (tgt := 231) hx hb dX13_scan_224 (by decide) (fun c479 => ?_) (fun c479 => absurd (by decide) c479)
                        refine lv_iconst (v := 5) hx hb dX13_scan_231 (by decide) ?_
                        refine hp_put hx hb hts hown hZ ho455 fp_X13_83 rfl rfl (Nat.le_of_ble_eq_true rfl) dX13_scan_232 (fun V480 _ _ e481 o482 hZ => ?_)
                        have e481 : V480 (mo) = some (.inr (13, hm_o q (m_tp) (m_sz) (bh9) (bh8) (5) (m_ft) (m_fa) (m_le) (m_fo) (m_as) (m_fd) (m_bc) (m_bg) (m_bs) (m_be) (m_b0) (m_b1) (m_cm) (m_hc))) := e481
                        have hP := hP.put h_mo e481 o482 (trivial) rfl
                        refine lv_aload_n hx hb dX13_scan_235 rfl (lv_at hl 2 rfl) ?_
                        refine lv_dup hx hb dX13_scan_236 rfl ?_
                        refine hp_get (v := .int (bh8)) hx hb hts hown hZ e481 fl_X13_76 rfl dX13_scan_237 ?_
                        refine lv_iconst (v := 1) hx hb dX13_scan_240 (by decide) ?_
                        refine lv_iadd hx hb dX13_scan_241 ?_
                        refine lv_topi (fun y483 ey484 => ?_)
                        obtain ⟨k485, hk486, b487, b488⟩ := hq_add (bh8) (1)
                        rw [← ey484] at hk486 b487 b488
                        have hk486 : (y483).toInt = (bh8).toInt + (1 : Int) + k485 * 4294967296 := hk486
                        obtain rfl : k485 = 0 := by omega
                        refine hp_put hx hb hts hown hZ e481 fp_X13_76 rfl rfl (Nat.le_of_ble_eq_true rfl) dX13_scan_242 (fun V489 _ _ e490 o491 hZ => ?_)
                        have e490 : V489 (mo) = some (.inr (13, hm_o q (m_tp) (m_sz) (bh9) (y483) (5) (m_ft) (m_fa) (m_le) (m_fo) (m_as) (m_fd) (m_bc) (m_bg) (m_bs) (m_be) (m_b0) (m_b1) (m_cm) (m_hc))) := e490
                        have hP := hP.put h_mo e490 o491 (trivial) rfl
                        refine lv_goto (tgt := 320) hx hb dX13_scan_245 (by decide) ?_
                        have hl492 : (5 : Int32).toInt = 5 := by decide
                        exact hp_vret hx hb hr hlocks hZ ⟨rfl, hP, ⟨bh9, y483, 5, e490, by omega, show _ ∨ _ by omega, ⟨by omega, by omega, by omega, by omega, by omega, by omega, by omega⟩⟩⟩ dX13_scan_320
                      · have c478 : ¬ (9 : Int) < (y472).toInt := fun h9 => c478 (hq_lti.mpr h9)
                        refine lv_iconst (v := 1) hx hb dX13_scan_216 (by decide) ?_
                        refine lv_goto (tgt := 221) hx hb dX13_scan_217 (by decide) ?_
                        refine lv_istore_n (lv' := [(2, .int (1)), (1, .int (r303)), (0, .ref (mo))]) hx hb dX13_scan_221 rfl hl (by decide) rfl (fun ls hl => ?_)
                        refine lv_aload_n hx hb dX13_scan_222 rfl (lv_at hl 2 rfl) ?_
                        refine lv_iload_n hx hb dX13_scan_223 rfl (lv_at hl 0 rfl) ?_
                        refine lv_if_eq (tgt := 231) hx hb dX13_scan_224 (by decide) (fun c493 => absurd c493 (by decide)) (fun c493 => ?_)
                        refine lv_iconst (v := 3) hx hb dX13_scan_227 (by decide) ?_
                        refine lv_goto (tgt := 232) hx hb dX13_scan_228 (by decide) ?_
                        refine hp_put hx hb hts hown hZ ho455 fp_X13_83 rfl rfl (Nat.le_of_ble_eq_true rfl) dX13_scan_232 (fun V494 _ _ e495 o496 hZ => ?_)
                        have e495 : V494 (mo) = some (.inr (13, hm_o q (m_tp) (m_sz) (bh9) (bh8) (3) (m_ft) (m_fa) (m_le) (m_fo) (m_as) (m_fd) (m_bc) (m_bg) (m_bs) (m_be) (m_b0) (m_b1) (m_cm) (m_hc))) := e495
                        have hP := hP.put h_mo e495 o496 (trivial) rfl
                        refine lv_aload_n hx hb dX13_scan_235 rfl (lv_at hl 2 rfl) ?_
                        refine lv_dup hx hb dX13_scan_236 rfl ?_
                        refine hp_get (v := .int (bh8)) hx hb hts hown hZ e495 fl_X13_76 rfl dX13_scan_237 ?_
                        refine lv_iconst (v := 1) hx hb dX13_scan_240 (by decide) ?_
                        refine lv_iadd hx hb dX13_scan_241 ?_
                        refine lv_topi (fun y497 ey498 => ?_)
                        obtain ⟨k499, hk500, b501, b502⟩ := hq_add (bh8) (1)
                        rw [← ey498] at hk500 b501 b502
                        have hk500 : (y497).toInt = (bh8).toInt + (1 : Int) + k499 * 4294967296 := hk500
                        obtain rfl : k499 = 0 := by omega
                        refine hp_put hx hb hts hown hZ e495 fp_X13_76 rfl rfl (Nat.le_of_ble_eq_true rfl) dX13_scan_242 (fun V503 _ _ e504 o505 hZ => ?_)
                        have e504 : V503 (mo) = some (.inr (13, hm_o q (m_tp) (m_sz) (bh9) (y497) (3) (m_ft) (m_fa) (m_le) (m_fo) (m_as) (m_fd) (m_bc) (m_bg) (m_bs) (m_be) (m_b0) (m_b1) (m_cm) (m_hc))) := e504
                        have hP := hP.put h_mo e504 o505 (trivial) rfl
                        refine lv_goto (tgt := 320) hx hb dX13_scan_245 (by decide) ?_
                        have hl506 : (3 : Int32).toInt = 3 := by decide
                        exact hp_vret hx hb hr hlocks hZ ⟨rfl, hP, ⟨bh9, y497, 3, e504, by omega, show _ ∨ _ by omega, ⟨by omega, by omega, by omega, by omega, by omega, by omega, by omega⟩⟩⟩ dX13_scan_320
                  · have c447 : ¬ (r443).toInt = (0 : Int) := fun h9 => c447 (hq_eqi.mpr h9)
                    refine lv_aload_n hx hb dX13_scan_176 rfl (lv_at hl 1 rfl) ?_
                    refine lv_dup hx hb dX13_scan_177 rfl ?_
                    have fx507 : V440 (mo) = some (.inr (13, hm_o q (m_tp) (m_sz) (bh9) (bh8) (m_hd) (m_ft) (m_fa) (m_le) (m_fo) (m_as) (m_fd) (m_bc) (m_bg) (m_bs) (m_be) (m_b0) (m_b1) (m_cm) (m_hc))) := (hq444.2 (mo) _ h_mo rfl).trans (ho438)
                    refine hp_get (v := .int (bh8)) hx hb hts hown hZ fx507 fl_X13_76 rfl dX13_scan_178 ?_
                    refine lv_iconst (v := 1) hx hb dX13_scan_181 (by decide) ?_
                    refine lv_iadd hx hb dX13_scan_182 ?_
                    refine lv_topi (fun y508 ey509 => ?_)
                    obtain ⟨k510, hk511, b512, b513⟩ := hq_add (bh8) (1)
                    rw [← ey509] at hk511 b512 b513
                    have hk511 : (y508).toInt = (bh8).toInt + (1 : Int) + k510 * 4294967296 := hk511
                    obtain rfl : k510 = 0 := by omega
                    refine hp_put hx hb hts hown hZ fx507 fp_X13_76 rfl rfl (Nat.le_of_ble_eq_true rfl) dX13_scan_183 (fun V514 _ _ e515 o516 hZ => ?_)
                    have e515 : V514 (mo) = some (.inr (13, hm_o q (m_tp) (m_sz) (bh9) (y508) (m_hd) (m_ft) (m_fa) (m_le) (m_fo) (m_as) (m_fd) (m_bc) (m_bg) (m_bs) (m_be) (m_b0) (m_b1) (m_cm) (m_hc))) := e515
                    have hP := hP.put h_mo e515 o516 (trivial) rfl
                    refine lv_goto (tgt := 162) hx hb dX13_scan_186 (by decide) ?_
                    exact ih162 _ (by omega) _ _ _ ls  (y508) rfl hZ hP e515 (by omega) (by omega) (lv_sub hl [0, 1] rfl)
            · have c325 : ¬ (r321).toInt = (0 : Int) := fun h9 => c325 (hq_eqi.mpr h9)
              have fx517 : V318 (mo) = some (.inr (13, hm_o q (m_tp) (m_sz) (bh9) (y309) (m_hd) (m_ft) (m_fa) (m_le) (m_fo) (m_as) (m_fd) (m_bc) (m_bg) (m_bs) (m_be) (m_b0) (m_b1) (m_cm) (m_hc))) := (hq322.2 (mo) _ h_mo rfl).trans (e316)
              suffices lp103 : ∀ (k9 : Nat) (V9 : hp_V) (H9 : Heap) (locs9 : List Loc) (ls : Array Slot)  (bh8 : Int32), (5000 - bh8.toInt).toNat = k9 → hp_Z D cs B s V9 H9 n locs9 → hq_P cs G (fun g => g.1 == 1) V V9 → V9 (mo) = some (.inr (13, hm_o q (m_tp) (m_sz) (bh9) (bh8) (m_hd) (m_ft) (m_fa) (m_le) (m_fo) (m_as) (m_fd) (m_bc) (m_bg) (m_bs) (m_be) (m_b0) (m_b1) (m_cm) (m_hc))) → bh9.toInt + 1 ≤ bh8.toInt → bh8.toInt ≤ m_sz.toInt → lv_has ls 3 [(1, .int (r303)), (0, .ref (mo))] → W p l e ({ frames := 2, cells := 0, slots := 0, locals := 42 }) s m ([.ref (mo)] : List Value).toArray below meth c H9 locs9 0 0 (MQ below (hp_QV D cs B (fun V' n' => n = n' ∧ hq_P cs G (fun g => g.1 == 1) V V' ∧ (∃ (m_fr1 : Int32) (m_bh1 : Int32) (m_hd1 : Int32), V' mo = some (.inr (13, hm_o q (m_tp) (m_sz) (m_fr1) (m_bh1) (m_hd1) (m_ft) (m_fa) (m_le) (m_fo) (m_as) (m_fd) (m_bc) (m_bg) (m_bs) (m_be) (m_b0) (m_b1) (m_cm) (m_hc))) ∧ (m_bh.toInt ≤ m_bh1.toInt) ∧ (hm_Up m_bh m_bh1 m_hd1) ∧ (hm_SC m_sz m_fr1 m_bh1 m_hd1)))) ([.ref (mo)] : List Value).toArray s 0 0 (hp_F B)) (F0 m 103 ls []) from lp103 _ _ _ _ ls  (y309) rfl hZ hP fx517 (by omega) (by omega) (lv_sub hl [0, 1] rfl)
              intro k9
              induction k9 using Nat.strongRecOn with
              | _ k9 ih103 =>
                intro V9 H9 locs9 ls  bh8 hk103 hZ hP ho518 hv519 hv520 hl
                have hb_bh8 := hq_rng bh8
                have hP_103 := hP
                refine lv_aload_n hx hb dX13_scan_103 rfl (lv_at hl 1 rfl) ?_
                refine lv_aload_n hx hb dX13_scan_104 rfl (lv_at hl 1 rfl) ?_
                refine hp_get (v := .int (bh8)) hx hb hts hown hZ ho518 fl_X13_76 rfl dX13_scan_105 ?_
                refine hp_calli (hp_runV (As := [.int (bh8)]) (rest := []) hx hb hml hown hts (t_X13_byteAt l D cs B G  V9 n hP.1 q hR (mo) h_mo (bh8) ho518  (by omega) (by omega) (by omega) (by omega) (by omega) (by omega) (by omega) (by omega) (by omega)) hZ ho518 cv_X13_79 rfl rfl ⟨Nat.le_of_ble_eq_true rfl, Nat.le_of_ble_eq_true rfl⟩ rfl hl.1 rfl (Nat.le_of_ble_eq_true rfl) dX13_scan_108 ⟨(Nat.le_of_ble_eq_true rfl), (Nat.le_of_ble_eq_true rfl)⟩) hZ (fun r524 V521 n522 _ _ hw523 hZ => ?_)
                obtain ⟨rfl, hq525, ho527, hr526⟩ := hw523
                have hP := hP.trans hq525 (fun _ _ => rfl)
                have b528 := hq_rng r524
                refine hp_calli (hp_runS (As := [.int (r524)]) (rest := []) hx hb hml hown hts (t_X13_isSmall l D cs B G  V521 n hP.1  (r524) ) hZ cv_X13_86 rfl rfl ⟨Nat.le_of_ble_eq_true rfl, Nat.le_of_ble_eq_true rfl⟩ rfl hl.1 rfl (Nat.le_of_ble_eq_true rfl) dX13_scan_111 ⟨(Nat.le_of_ble_eq_true rfl), (Nat.le_of_ble_eq_true rfl)⟩) hZ (fun r532 V529 n530 _ _ hw531 hZ => ?_)
                obtain ⟨rfl, hq533, hr534⟩ := hw531
                have hP := hP.trans hq533 (fun _ _ => rfl)
                have b535 := hq_rng r532
                refine lv_if_eq (tgt := 130) hx hb dX13_scan_114 (by decide) (fun c536 => ?_) (fun c536 => ?_)
                · have c536 : (r532).toInt = (0 : Int) := hq_eqi.mp c536
                  refine lv_aload_n hx hb dX13_scan_130 rfl (lv_at hl 1 rfl) ?_
                  refine lv_aload_n hx hb dX13_scan_131 rfl (lv_at hl 1 rfl) ?_
                  have fx537 : V529 (mo) = some (.inr (13, hm_o q (m_tp) (m_sz) (bh9) (bh8) (m_hd) (m_ft) (m_fa) (m_le) (m_fo) (m_as) (m_fd) (m_bc) (m_bg) (m_bs) (m_be) (m_b0) (m_b1) (m_cm) (m_hc))) := (hq533.2 (mo) _ h_mo rfl).trans (ho527)
                  refine hp_get (v := .int (bh8)) hx hb hts hown hZ fx537 fl_X13_76 rfl dX13_scan_132 ?_
                  refine lv_aload_n hx hb dX13_scan_135 rfl (lv_at hl 1 rfl) ?_
                  refine hp_get (v := .int (bh9)) hx hb hts hown hZ fx537 fl_X13_60 rfl dX13_scan_136 ?_
                  refine lv_isub hx hb dX13_scan_139 ?_
                  refine lv_topi (fun y538 ey539 => ?_)
                  obtain ⟨k540, hk541, b542, b543⟩ := hq_sub (bh8) (bh9)
                  rw [← ey539] at hk541 b542 b543
                  have hk541 : (y538).toInt = (bh8).toInt - (bh9).toInt + k540 * 4294967296 := hk541
                  obtain rfl : k540 = 0 := by omega
                  refine lv_bipush (v := 12) hx hb dX13_scan_140 (by decide) ?_
                  refine lv_icmp_le (tgt := 149) hx hb dX13_scan_142 (by decide) (fun c544 => ?_) (fun c544 => ?_)
                  · have c544 : (y538).toInt ≤ (12 : Int) := hq_lei.mp c544
                    refine lv_iconst (v := 1) hx hb dX13_scan_149 (by decide) ?_
                    refine hp_put hx hb hts hown hZ fx537 fp_X13_83 rfl rfl (Nat.le_of_ble_eq_true rfl) dX13_scan_150 (fun V545 _ _ e546 o547 hZ => ?_)
                    have e546 : V545 (mo) = some (.inr (13, hm_o q (m_tp) (m_sz) (bh9) (bh8) (1) (m_ft) (m_fa) (m_le) (m_fo) (m_as) (m_fd) (m_bc) (m_bg) (m_bs) (m_be) (m_b0) (m_b1) (m_cm) (m_hc))) := e546
                    have hP := hP.put h_mo e546 o547 (trivial) rfl
                    refine lv_goto (tgt := 320) hx hb dX13_scan_153 (by decide) ?_
                    have hl548 : (1 : Int32).toInt = 1 := by decide
                    exact hp_vret hx hb hr hlocks hZ ⟨rfl, hP, ⟨bh9, bh8, 1, e546, by omega, show _ ∨ _ by omega, ⟨by omega, by omega, by omega, by omega, by omega, by omega, by omega⟩⟩⟩ dX13_scan_320
                  · have c544 : ¬ (y538).toInt ≤ (12 : Int) := fun h9 => c544 (hq_lei.mpr h9)
                    refine lv_iconst (v := 5) hx hb dX13_scan_145 (by decide) ?_
                    refine lv_goto (tgt := 150) hx hb dX13_scan_146 (by decide) ?_
                    refine hp_put hx hb hts hown hZ fx537 fp_X13_83 rfl rfl (Nat.le_of_ble_eq_true rfl) dX13_scan_150 (fun V549 _ _ e550 o551 hZ => ?_)
                    have e550 : V549 (mo) = some (.inr (13, hm_o q (m_tp) (m_sz) (bh9) (bh8) (5) (m_ft) (m_fa) (m_le) (m_fo) (m_as) (m_fd) (m_bc) (m_bg) (m_bs) (m_be) (m_b0) (m_b1) (m_cm) (m_hc))) := e550
                    have hP := hP.put h_mo e550 o551 (trivial) rfl
                    refine lv_goto (tgt := 320) hx hb dX13_scan_153 (by decide) ?_
                    have hl552 : (5 : Int32).toInt = 5 := by decide
                    exact hp_vret hx hb hr hlocks hZ ⟨rfl, hP, ⟨bh9, bh8, 5, e550, by omega, show _ ∨ _ by omega, ⟨by omega, by omega, by omega, by omega, by omega, by omega, by omega⟩⟩⟩ dX13_scan_320
                · have c536 : ¬ (r532).toInt = (0 : Int) := fun h9 => c536 (hq_eqi.mpr h9)
                  refine lv_aload_n hx hb dX13_scan_117 rfl (lv_at hl 1 rfl) ?_
                  refine lv_dup hx hb dX13_scan_118 rfl ?_
                  have fx553 : V529 (mo) = some (.inr (13, hm_o q (m_tp) (m_sz) (bh9) (bh8) (m_hd) (m_ft) (m_fa) (m_le) (m_fo) (m_as) (m_fd) (m_bc) (m_bg) (m_bs) (m_be) (m_b0) (m_b1) (m_cm) (m_hc))) := (hq533.2 (mo) _ h_mo rfl).trans (ho527)
                  refine hp_get (v := .int (bh8)) hx hb hts hown hZ fx553 fl_X13_76 rfl dX13_scan_119 ?_
                  refine lv_iconst (v := 1) hx hb dX13_scan_122 (by decide) ?_
                  refine lv_iadd hx hb dX13_scan_123 ?_
                  refine lv_topi (fun y554 ey555 => ?_)
                  obtain ⟨k556, hk557, b558, b559⟩ := hq_add (bh8) (1)
                  rw [← ey555] at hk557 b558 b559
                  have hk557 : (y554).toInt = (bh8).toInt + (1 : Int) + k556 * 4294967296 := hk557
                  obtain rfl : k556 = 0 := by omega
                  refine hp_put hx hb hts hown hZ fx553 fp_X13_76 rfl rfl (Nat.le_of_ble_eq_true rfl) dX13_scan_124 (fun V560 _ _ e561 o562 hZ => ?_)
                  have e561 : V560 (mo) = some (.inr (13, hm_o q (m_tp) (m_sz) (bh9) (y554) (m_hd) (m_ft) (m_fa) (m_le) (m_fo) (m_as) (m_fd) (m_bc) (m_bg) (m_bs) (m_be) (m_b0) (m_b1) (m_cm) (m_hc))) := e561
                  have hP := hP.put h_mo e561 o562 (trivial) rfl
                  refine lv_goto (tgt := 103) hx hb dX13_scan_127 (by decide) ?_
                  exact ih103 _ (by omega) _ _ _ ls  (y554) rfl hZ hP e561 (by omega) (by omega) (lv_sub hl [0, 1] rfl)
          · have c308 : (bh9).toInt = (m_sz).toInt := hq_eqi.mp c308
            refine lv_aload_n hx hb dX13_scan_80 rfl (lv_at hl 1 rfl) ?_
            refine lv_iconst (v := 0) hx hb dX13_scan_81 (by decide) ?_
            refine hp_put hx hb hts hown hZ ho306 fp_X13_83 rfl rfl (Nat.le_of_ble_eq_true rfl) dX13_scan_82 (fun V563 _ _ e564 o565 hZ => ?_)
            have e564 : V563 (mo) = some (.inr (13, hm_o q (m_tp) (m_sz) (bh9) (bh9) (0) (m_ft) (m_fa) (m_le) (m_fo) (m_as) (m_fd) (m_bc) (m_bg) (m_bs) (m_be) (m_b0) (m_b1) (m_cm) (m_hc))) := e564
            have hP := hP.put h_mo e564 o565 (trivial) rfl
            have hl566 : (0 : Int32).toInt = 0 := by decide
            exact hp_vret hx hb hr hlocks hZ ⟨rfl, hP, ⟨bh9, bh9, 0, e564, by omega, show _ ∨ _ by omega, ⟨by omega, by omega, by omega, by omega, by omega, by omega, by omega⟩⟩⟩ dX13_scan_85
        · have c296 : (y293).toInt = (10 : Int) := hq_eqi.mp c296
          refine lv_aload_n hx hb dX13_scan_39 rfl (lv_at hl 0 rfl) ?_
          refine lv_dup hx hb dX13_scan_40 rfl ?_
          refine hp_get (v := .int (bh9)) hx hb hts hown hZ ho1 fl_X13_76 rfl dX13_scan_41 ?_
          refine lv_iconst (v := 1) hx hb dX13_scan_44 (by decide) ?_
          refine lv_iadd hx hb dX13_scan_45 ?_
          refine lv_topi (fun y567 ey568 => ?_)
          obtain ⟨k569, hk570, b571, b572⟩ := hq_add (bh9) (1)
          rw [← ey568] at hk570 b571 b572
          have hk570 : (y567).toInt = (bh9).toInt + (1 : Int) + k569 * 4294967296 := hk570
          obtain rfl : k569 = 0 := by omega
          refine hp_put hx hb hts hown hZ ho1 fp_X13_76 rfl rfl (Nat.le_of_ble_eq_true rfl) dX13_scan_46 (fun V573 _ _ e574 o575 hZ => ?_)
          have e574 : V573 (mo) = some (.inr (13, hm_o q (m_tp) (m_sz) (m_fr) (y567) (m_hd) (m_ft) (m_fa) (m_le) (m_fo) (m_as) (m_fd) (m_bc) (m_bg) (m_bs) (m_be) (m_b0) (m_b1) (m_cm) (m_hc))) := e574
          have hP := hP.put h_mo e574 o575 (trivial) rfl
          refine lv_goto (tgt := 0) hx hb dX13_scan_49 (by decide) ?_
          exact ih0 _ (by omega) _ _ _ ls  (y567) rfl hZ hP e574 (by omega) (by omega) (by omega) (lv_sub hl [0] rfl)

set_option maxHeartbeats 4000000 in
set_option maxRecDepth 100000 in
theorem t_X13_is (l : Launch) (D : va_G) (cs : Nat → ClassId) (B : Nat) (G : hq_G) (V : hp_V) (n : Nat) (hI : hq_I cs G V) (q : Nat) (hR : hq_RT G q) (mo : Nat) (h_mo : G mo = some (24, 0, 0, 0)) (i : Nat) (h_i : i < 18) {m_tp m_sz m_fr m_bh m_hd m_ft m_fa m_le m_fo m_as m_fd m_bc m_bg m_bs m_be m_b0 m_b1 m_cm m_hc : Int32} (ho_mo : V mo = some (.inr (13, hm_o q (m_tp) (m_sz) (m_fr) (m_bh) (m_hd) (m_ft) (m_fa) (m_le) (m_fo) (m_as) (m_fd) (m_bc) (m_bg) (m_bs) (m_be) (m_b0) (m_b1) (m_cm) (m_hc)))) (hi_mo0 : 0 ≤ m_tp.toInt ∧ m_tp.toInt ≤ 4000) (hi_mo1 : 0 ≤ m_sz.toInt ∧ m_sz.toInt ≤ 4000) (hi_mo2 : 0 ≤ m_le.toInt ∧ m_le.toInt ≤ 276) (hi_mo3 : 0 ≤ m_fo.toInt ∧ m_fo.toInt ≤ 4) (hi_mo4 : 0 ≤ m_as.toInt ∧ m_as.toInt ≤ 4000) (hi_mo5 : 0 ≤ m_fd.toInt ∧ m_fd.toInt ≤ 900) (hi_mo6 : 0 ≤ m_cm.toInt ∧ m_cm.toInt ≤ 2) (hi_mo7 : 0 ≤ m_hc.toInt ∧ m_hc.toInt ≤ 1) (hi_mo8 : hm_SC m_sz m_fr m_bh m_hd) : hp_M l yX13_is cX13_is 4 (some .boolean) ({ frames := 5, cells := 0, slots := 0, locals := 106 }) D cs B V n [.ref (mo), .ref (cs (100 + i))] (hp_QI D cs B (fun r V' n' => n = n' ∧ hq_P cs G (fun _ => false) V V' ∧ (V' mo = some (.inr (13, hm_o q (m_tp) (m_sz) (m_fr) (m_bh) (m_hd) (m_ft) (m_fa) (m_le) (m_fo) (m_as) (m_fd) (m_bc) (m_bg) (m_bs) (m_be) (m_b0) (m_b1) (m_cm) (m_hc)))) ∧ (hm_Is r m_hd))) 0 0 := by
  refine hp_walk (R0 := RX13) (by decide) rfl ?_ (Nat.le_of_ble_eq_true rfl)
  intro p e s m below meth c ls hx hb hr hts hown hlocks hin hml hZ hl
  have hP : hq_P cs G (fun _ => false) V V := hq_P.rf hI
  have hl : lv_has ls 4 [(0, .ref (mo)), (1, .ref (cs (100 + i)))] := hl
  have hb_m_tp := hq_rng m_tp
  have hb_m_sz := hq_rng m_sz
  have hb_m_fr := hq_rng m_fr
  have hb_m_bh := hq_rng m_bh
  have hb_m_hd := hq_rng m_hd
  have hb_m_ft := hq_rng m_ft
  have hb_m_fa := hq_rng m_fa
  have hb_m_le := hq_rng m_le
  have hb_m_fo := hq_rng m_fo
  have hb_m_as := hq_rng m_as
  have hb_m_fd := hq_rng m_fd
  have hb_m_bc := hq_rng m_bc
  have hb_m_bg := hq_rng m_bg
  have hb_m_bs := hq_rng m_bs
  have hb_m_be := hq_rng m_be
  have hb_m_b0 := hq_rng m_b0
  have hb_m_b1 := hq_rng m_b1
  have hb_m_cm := hq_rng m_cm
  have hb_m_hc := hq_rng m_hc
  have hscu := hm_SC.out (by assumption)
  have hsl := (hs_all i h_i).1
  have jn29 : ∀ (V9 : hp_V) (H9 : Heap) (locs9 : List Loc) (ls : Array Slot)  (y29 : Int32), hp_Z D cs B s V9 H9 n locs9 → hq_P cs G (fun _ => false) V V9 → V9 (mo) = some (.inr (13, hm_o q (m_tp) (m_sz) (m_fr) (m_bh) (m_hd) (m_ft) (m_fa) (m_le) (m_fo) (m_as) (m_fd) (m_bc) (m_bg) (m_bs) (m_be) (m_b0) (m_b1) (m_cm) (m_hc))) → (y29.toInt = 0 ∨ (y29.toInt = 1 ∧ m_hd.toInt = 1 ∧ m_bh.toInt - m_fr.toInt = (hp_sl.getD i 0 : Nat))) → lv_has ls 4 [(0, .ref (mo)), (1, .ref (cs (100 + i)))] → W p l e ({ frames := 5, cells := 0, slots := 0, locals := 106 }) s m ([.ref (mo), .ref (cs (100 + i))] : List Value).toArray below meth c H9 locs9 0 0 (MQ below (hp_QI D cs B (fun r V' n' => n = n' ∧ hq_P cs G (fun _ => false) V V' ∧ (V' mo = some (.inr (13, hm_o q (m_tp) (m_sz) (m_fr) (m_bh) (m_hd) (m_ft) (m_fa) (m_le) (m_fo) (m_as) (m_fd) (m_bc) (m_bg) (m_bs) (m_be) (m_b0) (m_b1) (m_cm) (m_hc)))) ∧ (hm_Is r m_hd))) ([.ref (mo), .ref (cs (100 + i))] : List Value).toArray s 0 0 (hp_F B)) (F0 m 29 ls [.int (y29)]) := by
    intro V9 H9 locs9 ls  y29  hZ hP  ho1 hv2 hl
    have hb_y29 := hq_rng y29
    have hPj29 := hP
    refine lv_istore_n (lv' := [(2, .int (y29)), (0, .ref (mo)), (1, .ref (cs (100 + i)))]) hx hb dX13_is_29 rfl hl (by decide) rfl (fun ls hl => ?_)
    refine lv_iconst (v := 0) hx hb dX13_is_30 (by decide) ?_
    refine lv_istore_n (lv' := [(3, .int (0)), (2, .int (y29)), (0, .ref (mo)), (1, .ref (cs (100 + i)))]) hx hb dX13_is_31 rfl hl (by decide) rfl (fun ls hl => ?_)
    have hl3 : (0 : Int32).toInt = 0 := by decide
    suffices lp32 : ∀ (k9 : Nat) (V9 : hp_V) (H9 : Heap) (locs9 : List Loc) (ls : Array Slot) (iz : Int32) (k : Int32), (1000 - k.toInt).toNat = k9 → hp_Z D cs B s V9 H9 n locs9 → hq_P cs G (fun _ => false) V V9 → 0 ≤ k.toInt → k.toInt ≤ 100 → (iz.toInt = 0 ∨ (iz.toInt = 1 ∧ m_hd.toInt = 1 ∧ m_bh.toInt - m_fr.toInt = (hp_sl.getD i 0 : Nat))) → lv_has ls 4 [(3, .int (k)), (2, .int (iz)), (0, .ref (mo)), (1, .ref (cs (100 + i)))] → W p l e ({ frames := 5, cells := 0, slots := 0, locals := 106 }) s m ([.ref (mo), .ref (cs (100 + i))] : List Value).toArray below meth c H9 locs9 0 0 (MQ below (hp_QI D cs B (fun r V' n' => n = n' ∧ hq_P cs G (fun _ => false) V V' ∧ (V' mo = some (.inr (13, hm_o q (m_tp) (m_sz) (m_fr) (m_bh) (m_hd) (m_ft) (m_fa) (m_le) (m_fo) (m_as) (m_fd) (m_bc) (m_bg) (m_bs) (m_be) (m_b0) (m_b1) (m_cm) (m_hc)))) ∧ (hm_Is r m_hd))) ([.ref (mo), .ref (cs (100 + i))] : List Value).toArray s 0 0 (hp_F B)) (F0 m 32 ls []) from lp32 _ _ _ _ ls (y29) (0) rfl hZ hP (by omega) (by omega) (by omega) (lv_sub hl [0, 1, 2, 3] rfl)
    intro k9
    induction k9 using Nat.strongRecOn with
    | _ k9 ih32 =>
      intro V9 H9 locs9 ls iz k  hk32 hZ hP  hv4 hv5 hv6 hl
      have hb_iz := hq_rng iz
      have hb_k := hq_rng k
      have hP_32 := hP
      refine lv_iload_n hx hb dX13_is_32 rfl (lv_at hl 0 rfl) ?_
      refine lv_aload_n hx hb dX13_is_33 rfl (lv_at hl 3 rfl) ?_
      refine hp_calli (hp_runVS (As := []) (rest := [.int (k)]) hx hb hml hown hts (s_length l D cs B V9 n i h_i) hZ h_i rfl cv_X13_93 rfl rfl ⟨Nat.le_of_ble_eq_true rfl, Nat.le_of_ble_eq_true rfl⟩ rfl hl.1 rfl (Nat.le_of_ble_eq_true rfl) dX13_is_34 ⟨Nat.le_of_ble_eq_true rfl, Nat.le_of_ble_eq_true rfl⟩) hZ (fun r10 V7 n8 _ _ hw9 hZ => ?_)
      obtain ⟨rfl, rfl, hr11⟩ := hw9
      have b12 := hq_rng r10
      have b13 : r10.toInt = (hp_sl.getD i 0 : Nat) := by rw [hr11]; exact hs_ofn (by have h9 := (hs_all i h_i).1; omega)
      refine lv_icmp_ge (tgt := 75) hx hb dX13_is_37 (by decide) (fun c14 => ?_) (fun c14 => ?_)
      · have c14 : (r10).toInt ≤ (k).toInt := hq_lei.mp c14
        refine lv_iload_n hx hb dX13_is_75 rfl (lv_at hl 1 rfl) ?_
        have fx15 : V9 (mo) = some (.inr (13, hm_o q (m_tp) (m_sz) (m_fr) (m_bh) (m_hd) (m_ft) (m_fa) (m_le) (m_fo) (m_as) (m_fd) (m_bc) (m_bg) (m_bs) (m_be) (m_b0) (m_b1) (m_cm) (m_hc))) := (hP_32.2 (mo) _ h_mo rfl).trans (ho_mo)
        exact hp_zret hx hb hr (hq_nzi (by omega) (by omega)) hlocks hZ ⟨rfl, hP, fx15, (show _ ∨ _ by omega)⟩ dX13_is_76
      · have c14 : ¬ (r10).toInt ≤ (k).toInt := fun h9 => c14 (hq_lei.mpr h9)
        refine lv_iload_n hx hb dX13_is_40 rfl (lv_at hl 1 rfl) ?_
        refine lv_if_eq (tgt := 75) hx hb dX13_is_41 (by decide) (fun c16 => ?_) (fun c16 => ?_)
        · have c16 : (iz).toInt = (0 : Int) := hq_eqi.mp c16
          refine lv_iload_n hx hb dX13_is_75 rfl (lv_at hl 1 rfl) ?_
          have fx17 : V9 (mo) = some (.inr (13, hm_o q (m_tp) (m_sz) (m_fr) (m_bh) (m_hd) (m_ft) (m_fa) (m_le) (m_fo) (m_as) (m_fd) (m_bc) (m_bg) (m_bs) (m_be) (m_b0) (m_b1) (m_cm) (m_hc))) := (hP_32.2 (mo) _ h_mo rfl).trans (ho_mo)
          exact hp_zret hx hb hr (hq_nzi (by omega) (by omega)) hlocks hZ ⟨rfl, hP, fx17, (show _ ∨ _ by omega)⟩ dX13_is_76
        · have c16 : ¬ (iz).toInt = (0 : Int) := fun h9 => c16 (hq_eqi.mpr h9)
          refine lv_aload_n hx hb dX13_is_44 rfl (lv_at hl 2 rfl) ?_
          have fx18 : V9 (mo) = some (.inr (13, hm_o q (m_tp) (m_sz) (m_fr) (m_bh) (m_hd) (m_ft) (m_fa) (m_le) (m_fo) (m_as) (m_fd) (m_bc) (m_bg) (m_bs) (m_be) (m_b0) (m_b1) (m_cm) (m_hc))) := (hP_32.2 (mo) _ h_mo rfl).trans (ho_mo)
          refine hp_get (v := .ref (q + 20)) hx hb hts hown hZ fx18 fl_X13_73 rfl dX13_is_45 ?_
          refine lv_aload_n hx hb dX13_is_48 rfl (lv_at hl 2 rfl) ?_
          refine hp_get (v := .int (m_fr)) hx hb hts hown hZ fx18 fl_X13_60 rfl dX13_is_49 ?_
          refine lv_iload_n hx hb dX13_is_52 rfl (lv_at hl 0 rfl) ?_
          refine lv_iadd hx hb dX13_is_53 ?_
          refine lv_topi (fun y19 ey20 => ?_)
          obtain ⟨k21, hk22, b23, b24⟩ := hq_add (m_fr) (k)
          rw [← ey20] at hk22 b23 b24
          have hk22 : (y19).toInt = (m_fr).toInt + (k).toInt + k21 * 4294967296 := hk22
          obtain rfl : k21 = 0 := by omega
          obtain ⟨hN27, g26, eV25⟩ := hq_o20 hP.1 (hr_20 hR)
          refine hp_bald hx hb hZ eV25 (hq_in (by omega) (by omega)) dX13_is_54 ?_
          refine lv_topi (fun y29 ey30 => ?_)
          have b31 := hq_rng y29
          refine lv_aload_n hx hb dX13_is_55 rfl (lv_at hl 3 rfl) ?_
          refine lv_iload_n hx hb dX13_is_56 rfl (lv_at hl 0 rfl) ?_
          refine hp_calli (hp_runVS (As := [.int (k)]) (rest := [.int (y29)]) hx hb hml hown hts (s_charAt l D cs B V9 n i h_i (k) (by omega) (by omega)) hZ h_i rfl cv_X13_99 rfl rfl ⟨Nat.le_of_ble_eq_true rfl, Nat.le_of_ble_eq_true rfl⟩ rfl hl.1 rfl (Nat.le_of_ble_eq_true rfl) dX13_is_57 ⟨Nat.le_of_ble_eq_true rfl, Nat.le_of_ble_eq_true rfl⟩) hZ (fun r35 V32 n33 _ _ hw34 hZ => ?_)
          obtain ⟨rfl, rfl, hr36⟩ := hw34
          have b37 := hq_rng r35
          refine lv_icmp_ne (tgt := 67) hx hb dX13_is_60 (by decide) (fun c38 => ?_) (fun c38 => ?_)
          · have c38 : ¬ (y29).toInt = (r35).toInt := fun h9 => c38 (hq_eqi.mpr h9)
            refine lv_iconst (v := 0) hx hb dX13_is_67 (by decide) ?_
            refine lv_istore_n (lv' := [(2, .int (0)), (3, .int (k)), (0, .ref (mo)), (1, .ref (cs (100 + i)))]) hx hb dX13_is_68 rfl hl (by decide) rfl (fun ls hl => ?_)
            obtain ⟨y39, ey40⟩ : ∃ y : Int32, y = k + (1) := ⟨_, rfl⟩
            obtain ⟨k41, hk42, b43, b44⟩ := hq_add (k) (1)
            rw [← ey40] at hk42 b43 b44
            have hk42 : (y39).toInt = (k).toInt + (1) + k41 * 4294967296 := hk42
            refine lv_iinc (v := y39) (lv' := [(3, .int (y39)), (2, .int (0)), (0, .ref (mo)), (1, .ref (cs (100 + i)))]) hx hb dX13_is_69 hl (k := 1) rfl (by rw [ey40]; rfl) (by decide) rfl (fun ls hl => ?_)
            refine lv_goto (tgt := 32) hx hb dX13_is_72 (by decide) ?_
            exact ih32 _ (by omega) _ _ _ ls (0) (y39) rfl hZ hP (by omega) (by omega) (by omega) (lv_sub hl [0, 1, 2, 3] rfl)
          · have c38 : (y29).toInt = (r35).toInt := hq_eqi.mp c38
            refine lv_iconst (v := 1) hx hb dX13_is_63 (by decide) ?_
            refine lv_goto (tgt := 68) hx hb dX13_is_64 (by decide) ?_
            refine lv_istore_n (lv' := [(2, .int (1)), (3, .int (k)), (0, .ref (mo)), (1, .ref (cs (100 + i)))]) hx hb dX13_is_68 rfl hl (by decide) rfl (fun ls hl => ?_)
            obtain ⟨y45, ey46⟩ : ∃ y : Int32, y = k + (1) := ⟨_, rfl⟩
            obtain ⟨k47, hk48, b49, b50⟩ := hq_add (k) (1)
            rw [← ey46] at hk48 b49 b50
            have hk48 : (y45).toInt = (k).toInt + (1) + k47 * 4294967296 := hk48
            refine lv_iinc (v := y45) (lv' := [(3, .int (y45)), (2, .int (1)), (0, .ref (mo)), (1, .ref (cs (100 + i)))]) hx hb dX13_is_69 hl (k := 1) rfl (by rw [ey46]; rfl) (by decide) rfl (fun ls hl => ?_)
            refine lv_goto (tgt := 32) hx hb dX13_is_72 (by decide) ?_
            exact ih32 _ (by omega) _ _ _ ls (1) (y45) rfl hZ hP (by omega) (by omega) (by omega) (lv_sub hl [0, 1, 2, 3] rfl)
  refine lv_aload_n hx hb dX13_is_0 rfl (lv_at hl 0 rfl) ?_
  refine hp_get (v := .int (m_hd)) hx hb hts hown hZ ho_mo fl_X13_83 rfl dX13_is_1 ?_
  refine lv_iconst (v := 1) hx hb dX13_is_4 (by decide) ?_
  refine lv_icmp_ne (tgt := 28) hx hb dX13_is_5 (by decide) (fun c51 => ?_) (fun c51 => ?_)
  · have c51 : ¬ (m_hd).toInt = (1 : Int) := fun h9 => c51 (hq_eqi.mpr h9)
    refine lv_iconst (v := 0) hx hb dX13_is_28 (by decide) ?_
    have hl52 : (0 : Int32).toInt = 0 := by decide
    exact jn29 _ _ _ ls (0) hZ hP ho_mo (by omega) (lv_sub hl [0, 1] rfl)
  · have c51 : (m_hd).toInt = (1 : Int) := hq_eqi.mp c51
    refine lv_aload_n hx hb dX13_is_8 rfl (lv_at hl 0 rfl) ?_
    refine hp_get (v := .int (m_bh)) hx hb hts hown hZ ho_mo fl_X13_76 rfl dX13_is_9 ?_
    refine lv_aload_n hx hb dX13_is_12 rfl (lv_at hl 0 rfl) ?_
    refine hp_get (v := .int (m_fr)) hx hb hts hown hZ ho_mo fl_X13_60 rfl dX13_is_13 ?_
    refine lv_isub hx hb dX13_is_16 ?_
    refine lv_topi (fun y53 ey54 => ?_)
    obtain ⟨k55, hk56, b57, b58⟩ := hq_sub (m_bh) (m_fr)
    rw [← ey54] at hk56 b57 b58
    have hk56 : (y53).toInt = (m_bh).toInt - (m_fr).toInt + k55 * 4294967296 := hk56
    obtain rfl : k55 = 0 := by omega
    refine lv_aload_n hx hb dX13_is_17 rfl (lv_at hl 1 rfl) ?_
    refine hp_calli (hp_runVS (As := []) (rest := [.int (y53)]) hx hb hml hown hts (s_length l D cs B V n i h_i) hZ h_i rfl cv_X13_93 rfl rfl ⟨Nat.le_of_ble_eq_true rfl, Nat.le_of_ble_eq_true rfl⟩ rfl hl.1 rfl (Nat.le_of_ble_eq_true rfl) dX13_is_18 ⟨Nat.le_of_ble_eq_true rfl, Nat.le_of_ble_eq_true rfl⟩) hZ (fun r62 V59 n60 _ _ hw61 hZ => ?_)
    obtain ⟨rfl, rfl, hr63⟩ := hw61
    have b64 := hq_rng r62
    have b65 : r62.toInt = (hp_sl.getD i 0 : Nat) := by rw [hr63]; exact hs_ofn (by have h9 := (hs_all i h_i).1; omega)
    refine lv_icmp_ne (tgt := 28) hx hb dX13_is_21 (by decide) (fun c66 => ?_) (fun c66 => ?_)
    · have c66 : ¬ (y53).toInt = (r62).toInt := fun h9 => c66 (hq_eqi.mpr h9)
      refine lv_iconst (v := 0) hx hb dX13_is_28 (by decide) ?_
      have hl67 : (0 : Int32).toInt = 0 := by decide
      exact jn29 _ _ _ ls (0) hZ hP ho_mo (by omega) (lv_sub hl [0, 1] rfl)
    · have c66 : (y53).toInt = (r62).toInt := hq_eqi.mp c66
      refine lv_iconst (v := 1) hx hb dX13_is_24 (by decide) ?_
      refine lv_goto (tgt := 29) hx hb dX13_is_25 (by decide) ?_
      have hl68 : (1 : Int32).toInt = 1 := by decide
      exact jn29 _ _ _ ls (1) hZ hP ho_mo (by omega) (lv_sub hl [0, 1] rfl)

set_option maxHeartbeats 4000000 in
set_option maxRecDepth 100000 in
theorem t_X13_isKeyword (l : Launch) (D : va_G) (cs : Nat → ClassId) (B : Nat) (G : hq_G) (V : hp_V) (n : Nat) (hI : hq_I cs G V) (q : Nat) (hR : hq_RT G q) (mo : Nat) (h_mo : G mo = some (24, 0, 0, 0)) {m_tp m_sz m_fr m_bh m_hd m_ft m_fa m_le m_fo m_as m_fd m_bc m_bg m_bs m_be m_b0 m_b1 m_cm m_hc : Int32} (ho_mo : V mo = some (.inr (13, hm_o q (m_tp) (m_sz) (m_fr) (m_bh) (m_hd) (m_ft) (m_fa) (m_le) (m_fo) (m_as) (m_fd) (m_bc) (m_bg) (m_bs) (m_be) (m_b0) (m_b1) (m_cm) (m_hc)))) (hi_mo0 : 0 ≤ m_tp.toInt ∧ m_tp.toInt ≤ 4000) (hi_mo1 : 0 ≤ m_sz.toInt ∧ m_sz.toInt ≤ 4000) (hi_mo2 : 0 ≤ m_le.toInt ∧ m_le.toInt ≤ 276) (hi_mo3 : 0 ≤ m_fo.toInt ∧ m_fo.toInt ≤ 4) (hi_mo4 : 0 ≤ m_as.toInt ∧ m_as.toInt ≤ 4000) (hi_mo5 : 0 ≤ m_fd.toInt ∧ m_fd.toInt ≤ 900) (hi_mo6 : 0 ≤ m_cm.toInt ∧ m_cm.toInt ≤ 2) (hi_mo7 : 0 ≤ m_hc.toInt ∧ m_hc.toInt ≤ 1) (hi_mo8 : hm_SC m_sz m_fr m_bh m_hd) : hp_M l yX13_isKeyword cX13_isKeyword 2 (some .boolean) ({ frames := 6, cells := 0, slots := 0, locals := 129 }) D cs B V n [.ref (mo)] (hp_QI D cs B (fun r V' n' => n = n' ∧ hq_P cs G (fun _ => false) V V' ∧ (V' mo = some (.inr (13, hm_o q (m_tp) (m_sz) (m_fr) (m_bh) (m_hd) (m_ft) (m_fa) (m_le) (m_fo) (m_as) (m_fd) (m_bc) (m_bg) (m_bs) (m_be) (m_b0) (m_b1) (m_cm) (m_hc)))) ∧ (0 ≤ r.toInt ∧ r.toInt ≤ 1))) 0 0 := by
  refine hp_walk (R0 := RX13) (by decide) rfl ?_ (Nat.le_of_ble_eq_true rfl)
  intro p e s m below meth c ls hx hb hr hts hown hlocks hin hml hZ hl
  have hP : hq_P cs G (fun _ => false) V V := hq_P.rf hI
  have hl : lv_has ls 2 [(0, .ref (mo))] := hl
  have hb_m_tp := hq_rng m_tp
  have hb_m_sz := hq_rng m_sz
  have hb_m_fr := hq_rng m_fr
  have hb_m_bh := hq_rng m_bh
  have hb_m_hd := hq_rng m_hd
  have hb_m_ft := hq_rng m_ft
  have hb_m_fa := hq_rng m_fa
  have hb_m_le := hq_rng m_le
  have hb_m_fo := hq_rng m_fo
  have hb_m_as := hq_rng m_as
  have hb_m_fd := hq_rng m_fd
  have hb_m_bc := hq_rng m_bc
  have hb_m_bg := hq_rng m_bg
  have hb_m_bs := hq_rng m_bs
  have hb_m_be := hq_rng m_be
  have hb_m_b0 := hq_rng m_b0
  have hb_m_b1 := hq_rng m_b1
  have hb_m_cm := hq_rng m_cm
  have hb_m_hc := hq_rng m_hc
  refine lv_aload_n hx hb dX13_isKeyword_0 rfl (lv_at hl 0 rfl) ?_
  refine va_ldcS (tx := (hp_so.getD 1 ("", 0, "")).2.2) (q := cs (100 + 1)) hx hb hown (hZ.2.2.2.2.2.2.2.2.2.2 1 (by decide)) dX13_isKeyword_1 ?_
  refine hp_calli (hp_runV (As := [.ref (cs (100 + 1))]) (rest := []) hx hb hml hown hts (t_X13_is l D cs B G  V n hP.1 q hR (mo) h_mo 1 (by decide) ho_mo  (by omega) (by omega) (by omega) (by omega) (by omega) (by omega) (by omega) (by omega) (by assumption) ) hZ ho_mo cv_X13_103 rfl rfl ⟨Nat.le_of_ble_eq_true rfl, Nat.le_of_ble_eq_true rfl⟩ rfl hl.1 rfl (Nat.le_of_ble_eq_true rfl) dX13_isKeyword_3 ⟨(Nat.le_of_ble_eq_true rfl), (Nat.le_of_ble_eq_true rfl)⟩) hZ (fun r4 V1 n2 _ _ hw3 hZ => ?_)
  obtain ⟨rfl, hq5, ho7, hr6⟩ := hw3
  have hP := hP.trans hq5 (fun _ _ => rfl)
  have b8 := hq_rng r4
  refine lv_if_ne (tgt := 81) hx hb dX13_isKeyword_6 (by decide) (fun c9 => ?_) (fun c9 => ?_)
  · have c9 : ¬ (r4).toInt = (0 : Int) := fun h9 => c9 (hq_eqi.mpr h9)
    refine lv_iconst (v := 1) hx hb dX13_isKeyword_81 (by decide) ?_
    refine lv_goto (tgt := 86) hx hb dX13_isKeyword_82 (by decide) ?_
    refine lv_istore_n (lv' := [(1, .int (1)), (0, .ref (mo))]) hx hb dX13_isKeyword_86 rfl hl (by decide) rfl (fun ls hl => ?_)
    refine lv_iload_n hx hb dX13_isKeyword_87 rfl (lv_at hl 0 rfl) ?_
    refine lv_if_ne (tgt := 163) hx hb dX13_isKeyword_88 (by decide) (fun c10 => ?_) (fun c10 => absurd c10 (by decide))
    refine lv_iconst (v := 1) hx hb dX13_isKeyword_163 (by decide) ?_
    refine lv_goto (tgt := 168) hx hb dX13_isKeyword_164 (by decide) ?_
    exact hp_zret hx hb hr rfl hlocks hZ ⟨rfl, hP, ho7, (by decide)⟩ dX13_isKeyword_168
  · have c9 : (r4).toInt = (0 : Int) := hq_eqi.mp c9
    refine lv_aload_n hx hb dX13_isKeyword_9 rfl (lv_at hl 0 rfl) ?_
    refine va_ldcS (tx := (hp_so.getD 2 ("", 0, "")).2.2) (q := cs (100 + 2)) hx hb hown (hZ.2.2.2.2.2.2.2.2.2.2 2 (by decide)) dX13_isKeyword_10 ?_
    refine hp_calli (hp_runV (As := [.ref (cs (100 + 2))]) (rest := []) hx hb hml hown hts (t_X13_is l D cs B G  V1 n hP.1 q hR (mo) h_mo 2 (by decide) ho7  (by omega) (by omega) (by omega) (by omega) (by omega) (by omega) (by omega) (by omega) (by assumption) ) hZ ho7 cv_X13_103 rfl rfl ⟨Nat.le_of_ble_eq_true rfl, Nat.le_of_ble_eq_true rfl⟩ rfl hl.1 rfl (Nat.le_of_ble_eq_true rfl) dX13_isKeyword_12 ⟨(Nat.le_of_ble_eq_true rfl), (Nat.le_of_ble_eq_true rfl)⟩) hZ (fun r14 V11 n12 _ _ hw13 hZ => ?_)
    obtain ⟨rfl, hq15, ho17, hr16⟩ := hw13
    have hP := hP.trans hq15 (fun _ _ => rfl)
    have b18 := hq_rng r14
    refine lv_if_ne (tgt := 81) hx hb dX13_isKeyword_15 (by decide) (fun c19 => ?_) (fun c19 => ?_)
    · have c19 : ¬ (r14).toInt = (0 : Int) := fun h9 => c19 (hq_eqi.mpr h9)
      refine lv_iconst (v := 1) hx hb dX13_isKeyword_81 (by decide) ?_
      refine lv_goto (tgt := 86) hx hb dX13_isKeyword_82 (by decide) ?_
      refine lv_istore_n (lv' := [(1, .int (1)), (0, .ref (mo))]) hx hb dX13_isKeyword_86 rfl hl (by decide) rfl (fun ls hl => ?_)
      refine lv_iload_n hx hb dX13_isKeyword_87 rfl (lv_at hl 0 rfl) ?_
      refine lv_if_ne (tgt := 163) hx hb dX13_isKeyword_88 (by decide) (fun c20 => ?_) (fun c20 => absurd c20 (by decide))
      refine lv_iconst (v := 1) hx hb dX13_isKeyword_163 (by decide) ?_
      refine lv_goto (tgt := 168) hx hb dX13_isKeyword_164 (by decide) ?_
      exact hp_zret hx hb hr rfl hlocks hZ ⟨rfl, hP, ho17, (by decide)⟩ dX13_isKeyword_168
    · have c19 : (r14).toInt = (0 : Int) := hq_eqi.mp c19
      refine lv_aload_n hx hb dX13_isKeyword_18 rfl (lv_at hl 0 rfl) ?_
      refine va_ldcS (tx := (hp_so.getD 3 ("", 0, "")).2.2) (q := cs (100 + 3)) hx hb hown (hZ.2.2.2.2.2.2.2.2.2.2 3 (by decide)) dX13_isKeyword_19 ?_
      refine hp_calli (hp_runV (As := [.ref (cs (100 + 3))]) (rest := []) hx hb hml hown hts (t_X13_is l D cs B G  V11 n hP.1 q hR (mo) h_mo 3 (by decide) ho17  (by omega) (by omega) (by omega) (by omega) (by omega) (by omega) (by omega) (by omega) (by assumption) ) hZ ho17 cv_X13_103 rfl rfl ⟨Nat.le_of_ble_eq_true rfl, Nat.le_of_ble_eq_true rfl⟩ rfl hl.1 rfl (Nat.le_of_ble_eq_true rfl) dX13_isKeyword_21 ⟨(Nat.le_of_ble_eq_true rfl), (Nat.le_of_ble_eq_true rfl)⟩) hZ (fun r24 V21 n22 _ _ hw23 hZ => ?_)
      obtain ⟨rfl, hq25, ho27, hr26⟩ := hw23
      have hP := hP.trans hq25 (fun _ _ => rfl)
      have b28 := hq_rng r24
      refine lv_if_ne (tgt := 81) hx hb dX13_isKeyword_24 (by decide) (fun c29 => ?_) (fun c29 => ?_)
      · have c29 : ¬ (r24).toInt = (0 : Int) := fun h9 => c29 (hq_eqi.mpr h9)
        refine lv_iconst (v := 1) hx hb dX13_isKeyword_81 (by decide) ?_
        refine lv_goto (tgt := 86) hx hb dX13_isKeyword_82 (by decide) ?_
        refine lv_istore_n (lv' := [(1, .int (1)), (0, .ref (mo))]) hx hb dX13_isKeyword_86 rfl hl (by decide) rfl (fun ls hl => ?_)
        refine lv_iload_n hx hb dX13_isKeyword_87 rfl (lv_at hl 0 rfl) ?_
        refine lv_if_ne (tgt := 163) hx hb dX13_isKeyword_88 (by decide) (fun c30 => ?_) (fun c30 => absurd c30 (by decide))
        refine lv_iconst (v := 1) hx hb dX13_isKeyword_163 (by decide) ?_
        refine lv_goto (tgt := 168) hx hb dX13_isKeyword_164 (by decide) ?_
        exact hp_zret hx hb hr rfl hlocks hZ ⟨rfl, hP, ho27, (by decide)⟩ dX13_isKeyword_168
      · have c29 : (r24).toInt = (0 : Int) := hq_eqi.mp c29
        refine lv_aload_n hx hb dX13_isKeyword_27 rfl (lv_at hl 0 rfl) ?_
        refine va_ldcS (tx := (hp_so.getD 4 ("", 0, "")).2.2) (q := cs (100 + 4)) hx hb hown (hZ.2.2.2.2.2.2.2.2.2.2 4 (by decide)) dX13_isKeyword_28 ?_
        refine hp_calli (hp_runV (As := [.ref (cs (100 + 4))]) (rest := []) hx hb hml hown hts (t_X13_is l D cs B G  V21 n hP.1 q hR (mo) h_mo 4 (by decide) ho27  (by omega) (by omega) (by omega) (by omega) (by omega) (by omega) (by omega) (by omega) (by assumption) ) hZ ho27 cv_X13_103 rfl rfl ⟨Nat.le_of_ble_eq_true rfl, Nat.le_of_ble_eq_true rfl⟩ rfl hl.1 rfl (Nat.le_of_ble_eq_true rfl) dX13_isKeyword_30 ⟨(Nat.le_of_ble_eq_true rfl), (Nat.le_of_ble_eq_true rfl)⟩) hZ (fun r34 V31 n32 _ _ hw33 hZ => ?_)
        obtain ⟨rfl, hq35, ho37, hr36⟩ := hw33
        have hP := hP.trans hq35 (fun _ _ => rfl)
        have b38 := hq_rng r34
        refine lv_if_ne (tgt := 81) hx hb dX13_isKeyword_33 (by decide) (fun c39 => ?_) (fun c39 => ?_)
        · have c39 : ¬ (r34).toInt = (0 : Int) := fun h9 => c39 (hq_eqi.mpr h9)
          refine lv_iconst (v := 1) hx hb dX13_isKeyword_81 (by decide) ?_
          refine lv_goto (tgt := 86) hx hb dX13_isKeyword_82 (by decide) ?_
          refine lv_istore_n (lv' := [(1, .int (1)), (0, .ref (mo))]) hx hb dX13_isKeyword_86 rfl hl (by decide) rfl (fun ls hl => ?_)
          refine lv_iload_n hx hb dX13_isKeyword_87 rfl (lv_at hl 0 rfl) ?_
          refine lv_if_ne (tgt := 163) hx hb dX13_isKeyword_88 (by decide) (fun c40 => ?_) (fun c40 => absurd c40 (by decide))
          refine lv_iconst (v := 1) hx hb dX13_isKeyword_163 (by decide) ?_
          refine lv_goto (tgt := 168) hx hb dX13_isKeyword_164 (by decide) ?_
          exact hp_zret hx hb hr rfl hlocks hZ ⟨rfl, hP, ho37, (by decide)⟩ dX13_isKeyword_168
        · have c39 : (r34).toInt = (0 : Int) := hq_eqi.mp c39
          refine lv_aload_n hx hb dX13_isKeyword_36 rfl (lv_at hl 0 rfl) ?_
          refine va_ldcS (tx := (hp_so.getD 5 ("", 0, "")).2.2) (q := cs (100 + 5)) hx hb hown (hZ.2.2.2.2.2.2.2.2.2.2 5 (by decide)) dX13_isKeyword_37 ?_
          refine hp_calli (hp_runV (As := [.ref (cs (100 + 5))]) (rest := []) hx hb hml hown hts (t_X13_is l D cs B G  V31 n hP.1 q hR (mo) h_mo 5 (by decide) ho37  (by omega) (by omega) (by omega) (by omega) (by omega) (by omega) (by omega) (by omega) (by assumption) ) hZ ho37 cv_X13_103 rfl rfl ⟨Nat.le_of_ble_eq_true rfl, Nat.le_of_ble_eq_true rfl⟩ rfl hl.1 rfl (Nat.le_of_ble_eq_true rfl) dX13_isKeyword_39 ⟨(Nat.le_of_ble_eq_true rfl), (Nat.le_of_ble_eq_true rfl)⟩) hZ (fun r44 V41 n42 _ _ hw43 hZ => ?_)
          obtain ⟨rfl, hq45, ho47, hr46⟩ := hw43
          have hP := hP.trans hq45 (fun _ _ => rfl)
          have b48 := hq_rng r44
          refine lv_if_ne (tgt := 81) hx hb dX13_isKeyword_42 (by decide) (fun c49 => ?_) (fun c49 => ?_)
          · have c49 : ¬ (r44).toInt = (0 : Int) := fun h9 => c49 (hq_eqi.mpr h9)
            refine lv_iconst (v := 1) hx hb dX13_isKeyword_81 (by decide) ?_
            refine lv_goto (tgt := 86) hx hb dX13_isKeyword_82 (by decide) ?_
            refine lv_istore_n (lv' := [(1, .int (1)), (0, .ref (mo))]) hx hb dX13_isKeyword_86 rfl hl (by decide) rfl (fun ls hl => ?_)
            refine lv_iload_n hx hb dX13_isKeyword_87 rfl (lv_at hl 0 rfl) ?_
            refine lv_if_ne (tgt := 163) hx hb dX13_isKeyword_88 (by decide) (fun c50 => ?_) (fun c50 => absurd c50 (by decide))
            refine lv_iconst (v := 1) hx hb dX13_isKeyword_163 (by decide) ?_
            refine lv_goto (tgt := 168) hx hb dX13_isKeyword_164 (by decide) ?_
            exact hp_zret hx hb hr rfl hlocks hZ ⟨rfl, hP, ho47, (by decide)⟩ dX13_isKeyword_168
          · have c49 : (r44).toInt = (0 : Int) := hq_eqi.mp c49
            refine lv_aload_n hx hb dX13_isKeyword_45 rfl (lv_at hl 0 rfl) ?_
            refine va_ldcS (tx := (hp_so.getD 6 ("", 0, "")).2.2) (q := cs (100 + 6)) hx hb hown (hZ.2.2.2.2.2.2.2.2.2.2 6 (by decide)) dX13_isKeyword_46 ?_
            refine hp_calli (hp_runV (As := [.ref (cs (100 + 6))]) (rest := []) hx hb hml hown hts (t_X13_is l D cs B G  V41 n hP.1 q hR (mo) h_mo 6 (by decide) ho47  (by omega) (by omega) (by omega) (by omega) (by omega) (by omega) (by omega) (by omega) (by assumption) ) hZ ho47 cv_X13_103 rfl rfl ⟨Nat.le_of_ble_eq_true rfl, Nat.le_of_ble_eq_true rfl⟩ rfl hl.1 rfl (Nat.le_of_ble_eq_true rfl) dX13_isKeyword_48 ⟨(Nat.le_of_ble_eq_true rfl), (Nat.le_of_ble_eq_true rfl)⟩) hZ (fun r54 V51 n52 _ _ hw53 hZ => ?_)
            obtain ⟨rfl, hq55, ho57, hr56⟩ := hw53
            have hP := hP.trans hq55 (fun _ _ => rfl)
            have b58 := hq_rng r54
            refine lv_if_ne (tgt := 81) hx hb dX13_isKeyword_51 (by decide) (fun c59 => ?_) (fun c59 => ?_)
            · have c59 : ¬ (r54).toInt = (0 : Int) := fun h9 => c59 (hq_eqi.mpr h9)
              refine lv_iconst (v := 1) hx hb dX13_isKeyword_81 (by decide) ?_
              refine lv_goto (tgt := 86) hx hb dX13_isKeyword_82 (by decide) ?_
              refine lv_istore_n (lv' := [(1, .int (1)), (0, .ref (mo))]) hx hb dX13_isKeyword_86 rfl hl (by decide) rfl (fun ls hl => ?_)
              refine lv_iload_n hx hb dX13_isKeyword_87 rfl (lv_at hl 0 rfl) ?_
              refine lv_if_ne (tgt := 163) hx hb dX13_isKeyword_88 (by decide) (fun c60 => ?_) (fun c60 => absurd c60 (by decide))
              refine lv_iconst (v := 1) hx hb dX13_isKeyword_163 (by decide) ?_
              refine lv_goto (tgt := 168) hx hb dX13_isKeyword_164 (by decide) ?_
              exact hp_zret hx hb hr rfl hlocks hZ ⟨rfl, hP, ho57, (by decide)⟩ dX13_isKeyword_168
            · have c59 : (r54).toInt = (0 : Int) := hq_eqi.mp c59
              refine lv_aload_n hx hb dX13_isKeyword_54 rfl (lv_at hl 0 rfl) ?_
              refine va_ldcS (tx := (hp_so.getD 7 ("", 0, "")).2.2) (q := cs (100 + 7)) hx hb hown (hZ.2.2.2.2.2.2.2.2.2.2 7 (by decide)) dX13_isKeyword_55 ?_
              refine hp_calli (hp_runV (As := [.ref (cs (100 + 7))]) (rest := []) hx hb hml hown hts (t_X13_is l D cs B G  V51 n hP.1 q hR (mo) h_mo 7 (by decide) ho57  (by omega) (by omega) (by omega) (by omega) (by omega) (by omega) (by omega) (by omega) (by assumption) ) hZ ho57 cv_X13_103 rfl rfl ⟨Nat.le_of_ble_eq_true rfl, Nat.le_of_ble_eq_true rfl⟩ rfl hl.1 rfl (Nat.le_of_ble_eq_true rfl) dX13_isKeyword_57 ⟨(Nat.le_of_ble_eq_true rfl), (Nat.le_of_ble_eq_true rfl)⟩) hZ (fun r64 V61 n62 _ _ hw63 hZ => ?_)
              obtain ⟨rfl, hq65, ho67, hr66⟩ := hw63
              have hP := hP.trans hq65 (fun _ _ => rfl)
              have b68 := hq_rng r64
              refine lv_if_ne (tgt := 81) hx hb dX13_isKeyword_60 (by decide) (fun c69 => ?_) (fun c69 => ?_)
              · have c69 : ¬ (r64).toInt = (0 : Int) := fun h9 => c69 (hq_eqi.mpr h9)
                refine lv_iconst (v := 1) hx hb dX13_isKeyword_81 (by decide) ?_
                refine lv_goto (tgt := 86) hx hb dX13_isKeyword_82 (by decide) ?_
                refine lv_istore_n (lv' := [(1, .int (1)), (0, .ref (mo))]) hx hb dX13_isKeyword_86 rfl hl (by decide) rfl (fun ls hl => ?_)
                refine lv_iload_n hx hb dX13_isKeyword_87 rfl (lv_at hl 0 rfl) ?_
                refine lv_if_ne (tgt := 163) hx hb dX13_isKeyword_88 (by decide) (fun c70 => ?_) (fun c70 => absurd c70 (by decide))
                refine lv_iconst (v := 1) hx hb dX13_isKeyword_163 (by decide) ?_
                refine lv_goto (tgt := 168) hx hb dX13_isKeyword_164 (by decide) ?_
                exact hp_zret hx hb hr rfl hlocks hZ ⟨rfl, hP, ho67, (by decide)⟩ dX13_isKeyword_168
              · have c69 : (r64).toInt = (0 : Int) := hq_eqi.mp c69
                refine lv_aload_n hx hb dX13_isKeyword_63 rfl (lv_at hl 0 rfl) ?_
                refine va_ldcS (tx := (hp_so.getD 8 ("", 0, "")).2.2) (q := cs (100 + 8)) hx hb hown (hZ.2.2.2.2.2.2.2.2.2.2 8 (by decide)) dX13_isKeyword_64 ?_
                refine hp_calli (hp_runV (As := [.ref (cs (100 + 8))]) (rest := []) hx hb hml hown hts (t_X13_is l D cs B G  V61 n hP.1 q hR (mo) h_mo 8 (by decide) ho67  (by omega) (by omega) (by omega) (by omega) (by omega) (by omega) (by omega) (by omega) (by assumption) ) hZ ho67 cv_X13_103 rfl rfl ⟨Nat.le_of_ble_eq_true rfl, Nat.le_of_ble_eq_true rfl⟩ rfl hl.1 rfl (Nat.le_of_ble_eq_true rfl) dX13_isKeyword_66 ⟨(Nat.le_of_ble_eq_true rfl), (Nat.le_of_ble_eq_true rfl)⟩) hZ (fun r74 V71 n72 _ _ hw73 hZ => ?_)
                obtain ⟨rfl, hq75, ho77, hr76⟩ := hw73
                have hP := hP.trans hq75 (fun _ _ => rfl)
                have b78 := hq_rng r74
                refine lv_if_ne (tgt := 81) hx hb dX13_isKeyword_69 (by decide) (fun c79 => ?_) (fun c79 => ?_)
                · have c79 : ¬ (r74).toInt = (0 : Int) := fun h9 => c79 (hq_eqi.mpr h9)
                  refine lv_iconst (v := 1) hx hb dX13_isKeyword_81 (by decide) ?_
                  refine lv_goto (tgt := 86) hx hb dX13_isKeyword_82 (by decide) ?_
                  refine lv_istore_n (lv' := [(1, .int (1)), (0, .ref (mo))]) hx hb dX13_isKeyword_86 rfl hl (by decide) rfl (fun ls hl => ?_)
                  refine lv_iload_n hx hb dX13_isKeyword_87 rfl (lv_at hl 0 rfl) ?_
                  refine lv_if_ne (tgt := 163) hx hb dX13_isKeyword_88 (by decide) (fun c80 => ?_) (fun c80 => absurd c80 (by decide))
                  refine lv_iconst (v := 1) hx hb dX13_isKeyword_163 (by decide) ?_
                  refine lv_goto (tgt := 168) hx hb dX13_isKeyword_164 (by decide) ?_
                  exact hp_zret hx hb hr rfl hlocks hZ ⟨rfl, hP, ho77, (by decide)⟩ dX13_isKeyword_168
                · have c79 : (r74).toInt = (0 : Int) := hq_eqi.mp c79
                  refine lv_aload_n hx hb dX13_isKeyword_72 rfl (lv_at hl 0 rfl) ?_
                  refine va_ldcS (tx := (hp_so.getD 9 ("", 0, "")).2.2) (q := cs (100 + 9)) hx hb hown (hZ.2.2.2.2.2.2.2.2.2.2 9 (by decide)) dX13_isKeyword_73 ?_
                  refine hp_calli (hp_runV (As := [.ref (cs (100 + 9))]) (rest := []) hx hb hml hown hts (t_X13_is l D cs B G  V71 n hP.1 q hR (mo) h_mo 9 (by decide) ho77  (by omega) (by omega) (by omega) (by omega) (by omega) (by omega) (by omega) (by omega) (by assumption) ) hZ ho77 cv_X13_103 rfl rfl ⟨Nat.le_of_ble_eq_true rfl, Nat.le_of_ble_eq_true rfl⟩ rfl hl.1 rfl (Nat.le_of_ble_eq_true rfl) dX13_isKeyword_75 ⟨(Nat.le_of_ble_eq_true rfl), (Nat.le_of_ble_eq_true rfl)⟩) hZ (fun r84 V81 n82 _ _ hw83 hZ => ?_)
                  obtain ⟨rfl, hq85, ho87, hr86⟩ := hw83
                  have hP := hP.trans hq85 (fun _ _ => rfl)
                  have b88 := hq_rng r84
                  refine lv_if_eq (tgt := 85) hx hb dX13_isKeyword_78 (by decide) (fun c89 => ?_) (fun c89 => ?_)
                  · have c89 : (r84).toInt = (0 : Int) := hq_eqi.mp c89
                    refine lv_iconst (v := 0) hx hb dX13_isKeyword_85 (by decide) ?_
                    refine lv_istore_n (lv' := [(1, .int (0)), (0, .ref (mo))]) hx hb dX13_isKeyword_86 rfl hl (by decide) rfl (fun ls hl => ?_)
                    refine lv_iload_n hx hb dX13_isKeyword_87 rfl (lv_at hl 0 rfl) ?_
                    refine lv_if_ne (tgt := 163) hx hb dX13_isKeyword_88 (by decide) (fun c90 => absurd (by decide) c90) (fun c90 => ?_)
                    refine lv_aload_n hx hb dX13_isKeyword_91 rfl (lv_at hl 1 rfl) ?_
                    refine va_ldcS (tx := (hp_so.getD 10 ("", 0, "")).2.2) (q := cs (100 + 10)) hx hb hown (hZ.2.2.2.2.2.2.2.2.2.2 10 (by decide)) dX13_isKeyword_92 ?_
                    refine hp_calli (hp_runV (As := [.ref (cs (100 + 10))]) (rest := []) hx hb hml hown hts (t_X13_is l D cs B G  V81 n hP.1 q hR (mo) h_mo 10 (by decide) ho87  (by omega) (by omega) (by omega) (by omega) (by omega) (by omega) (by omega) (by omega) (by assumption) ) hZ ho87 cv_X13_103 rfl rfl ⟨Nat.le_of_ble_eq_true rfl, Nat.le_of_ble_eq_true rfl⟩ rfl hl.1 rfl (Nat.le_of_ble_eq_true rfl) dX13_isKeyword_94 ⟨(Nat.le_of_ble_eq_true rfl), (Nat.le_of_ble_eq_true rfl)⟩) hZ (fun r94 V91 n92 _ _ hw93 hZ => ?_)
                    obtain ⟨rfl, hq95, ho97, hr96⟩ := hw93
                    have hP := hP.trans hq95 (fun _ _ => rfl)
                    have b98 := hq_rng r94
                    refine lv_if_ne (tgt := 163) hx hb dX13_isKeyword_97 (by decide) (fun c99 => ?_) (fun c99 => ?_)
                    · have c99 : ¬ (r94).toInt = (0 : Int) := fun h9 => c99 (hq_eqi.mpr h9)
                      refine lv_iconst (v := 1) hx hb dX13_isKeyword_163 (by decide) ?_
                      refine lv_goto (tgt := 168) hx hb dX13_isKeyword_164 (by decide) ?_
                      exact hp_zret hx hb hr rfl hlocks hZ ⟨rfl, hP, ho97, (by decide)⟩ dX13_isKeyword_168
                    · have c99 : (r94).toInt = (0 : Int) := hq_eqi.mp c99
                      refine lv_aload_n hx hb dX13_isKeyword_100 rfl (lv_at hl 1 rfl) ?_
                      refine va_ldcS (tx := (hp_so.getD 11 ("", 0, "")).2.2) (q := cs (100 + 11)) hx hb hown (hZ.2.2.2.2.2.2.2.2.2.2 11 (by decide)) dX13_isKeyword_101 ?_
                      refine hp_calli (hp_runV (As := [.ref (cs (100 + 11))]) (rest := []) hx hb hml hown hts (t_X13_is l D cs B G  V91 n hP.1 q hR (mo) h_mo 11 (by decide) ho97  (by omega) (by omega) (by omega) (by omega) (by omega) (by omega) (by omega) (by omega) (by assumption) ) hZ ho97 cv_X13_103 rfl rfl ⟨Nat.le_of_ble_eq_true rfl, Nat.le_of_ble_eq_true rfl⟩ rfl hl.1 rfl (Nat.le_of_ble_eq_true rfl) dX13_isKeyword_103 ⟨(Nat.le_of_ble_eq_true rfl), (Nat.le_of_ble_eq_true rfl)⟩) hZ (fun r103 V100 n101 _ _ hw102 hZ => ?_)
                      obtain ⟨rfl, hq104, ho106, hr105⟩ := hw102
                      have hP := hP.trans hq104 (fun _ _ => rfl)
                      have b107 := hq_rng r103
                      refine lv_if_ne (tgt := 163) hx hb dX13_isKeyword_106 (by decide) (fun c108 => ?_) (fun c108 => ?_)
                      · have c108 : ¬ (r103).toInt = (0 : Int) := fun h9 => c108 (hq_eqi.mpr h9)
                        refine lv_iconst (v := 1) hx hb dX13_isKeyword_163 (by decide) ?_
                        refine lv_goto (tgt := 168) hx hb dX13_isKeyword_164 (by decide) ?_
                        exact hp_zret hx hb hr rfl hlocks hZ ⟨rfl, hP, ho106, (by decide)⟩ dX13_isKeyword_168
                      · have c108 : (r103).toInt = (0 : Int) := hq_eqi.mp c108
                        refine lv_aload_n hx hb dX13_isKeyword_109 rfl (lv_at hl 1 rfl) ?_
                        refine va_ldcS (tx := (hp_so.getD 12 ("", 0, "")).2.2) (q := cs (100 + 12)) hx hb hown (hZ.2.2.2.2.2.2.2.2.2.2 12 (by decide)) dX13_isKeyword_110 ?_
                        refine hp_calli (hp_runV (As := [.ref (cs (100 + 12))]) (rest := []) hx hb hml hown hts (t_X13_is l D cs B G  V100 n hP.1 q hR (mo) h_mo 12 (by decide) ho106  (by omega) (by omega) (by omega) (by omega) (by omega) (by omega) (by omega) (by omega) (by assumption) ) hZ ho106 cv_X13_103 rfl rfl ⟨Nat.le_of_ble_eq_true rfl, Nat.le_of_ble_eq_true rfl⟩ rfl hl.1 rfl (Nat.le_of_ble_eq_true rfl) dX13_isKeyword_112 ⟨(Nat.le_of_ble_eq_true rfl), (Nat.le_of_ble_eq_true rfl)⟩) hZ (fun r112 V109 n110 _ _ hw111 hZ => ?_)
                        obtain ⟨rfl, hq113, ho115, hr114⟩ := hw111
                        have hP := hP.trans hq113 (fun _ _ => rfl)
                        have b116 := hq_rng r112
                        refine lv_if_ne (tgt := 163) hx hb dX13_isKeyword_115 (by decide) (fun c117 => ?_) (fun c117 => ?_)
                        · have c117 : ¬ (r112).toInt = (0 : Int) := fun h9 => c117 (hq_eqi.mpr h9)
                          refine lv_iconst (v := 1) hx hb dX13_isKeyword_163 (by decide) ?_
                          refine lv_goto (tgt := 168) hx hb dX13_isKeyword_164 (by decide) ?_
                          exact hp_zret hx hb hr rfl hlocks hZ ⟨rfl, hP, ho115, (by decide)⟩ dX13_isKeyword_168
                        · have c117 : (r112).toInt = (0 : Int) := hq_eqi.mp c117
                          refine lv_aload_n hx hb dX13_isKeyword_118 rfl (lv_at hl 1 rfl) ?_
                          refine va_ldcS (tx := (hp_so.getD 13 ("", 0, "")).2.2) (q := cs (100 + 13)) hx hb hown (hZ.2.2.2.2.2.2.2.2.2.2 13 (by decide)) dX13_isKeyword_119 ?_
                          refine hp_calli (hp_runV (As := [.ref (cs (100 + 13))]) (rest := []) hx hb hml hown hts (t_X13_is l D cs B G  V109 n hP.1 q hR (mo) h_mo 13 (by decide) ho115  (by omega) (by omega) (by omega) (by omega) (by omega) (by omega) (by omega) (by omega) (by assumption) ) hZ ho115 cv_X13_103 rfl rfl ⟨Nat.le_of_ble_eq_true rfl, Nat.le_of_ble_eq_true rfl⟩ rfl hl.1 rfl (Nat.le_of_ble_eq_true rfl) dX13_isKeyword_121 ⟨(Nat.le_of_ble_eq_true rfl), (Nat.le_of_ble_eq_true rfl)⟩) hZ (fun r121 V118 n119 _ _ hw120 hZ => ?_)
                          obtain ⟨rfl, hq122, ho124, hr123⟩ := hw120
                          have hP := hP.trans hq122 (fun _ _ => rfl)
                          have b125 := hq_rng r121
                          refine lv_if_ne (tgt := 163) hx hb dX13_isKeyword_124 (by decide) (fun c126 => ?_) (fun c126 => ?_)
                          · have c126 : ¬ (r121).toInt = (0 : Int) := fun h9 => c126 (hq_eqi.mpr h9)
                            refine lv_iconst (v := 1) hx hb dX13_isKeyword_163 (by decide) ?_
                            refine lv_goto (tgt := 168) hx hb dX13_isKeyword_164 (by decide) ?_
                            exact hp_zret hx hb hr rfl hlocks hZ ⟨rfl, hP, ho124, (by decide)⟩ dX13_isKeyword_168
                          · have c126 : (r121).toInt = (0 : Int) := hq_eqi.mp c126
                            refine lv_aload_n hx hb dX13_isKeyword_127 rfl (lv_at hl 1 rfl) ?_
                            refine va_ldcS (tx := (hp_so.getD 14 ("", 0, "")).2.2) (q := cs (100 + 14)) hx hb hown (hZ.2.2.2.2.2.2.2.2.2.2 14 (by decide)) dX13_isKeyword_128 ?_
                            refine hp_calli (hp_runV (As := [.ref (cs (100 + 14))]) (rest := []) hx hb hml hown hts (t_X13_is l D cs B G  V118 n hP.1 q hR (mo) h_mo 14 (by decide) ho124  (by omega) (by omega) (by omega) (by omega) (by omega) (by omega) (by omega) (by omega) (by assumption) ) hZ ho124 cv_X13_103 rfl rfl ⟨Nat.le_of_ble_eq_true rfl, Nat.le_of_ble_eq_true rfl⟩ rfl hl.1 rfl (Nat.le_of_ble_eq_true rfl) dX13_isKeyword_130 ⟨(Nat.le_of_ble_eq_true rfl), (Nat.le_of_ble_eq_true rfl)⟩) hZ (fun r130 V127 n128 _ _ hw129 hZ => ?_)
                            obtain ⟨rfl, hq131, ho133, hr132⟩ := hw129
                            have hP := hP.trans hq131 (fun _ _ => rfl)
                            have b134 := hq_rng r130
                            refine lv_if_ne (tgt := 163) hx hb dX13_isKeyword_133 (by decide) (fun c135 => ?_) (fun c135 => ?_)
                            · have c135 : ¬ (r130).toInt = (0 : Int) := fun h9 => c135 (hq_eqi.mpr h9)
                              refine lv_iconst (v := 1) hx hb dX13_isKeyword_163 (by decide) ?_
                              refine lv_goto (tgt := 168) hx hb dX13_isKeyword_164 (by decide) ?_
                              exact hp_zret hx hb hr rfl hlocks hZ ⟨rfl, hP, ho133, (by decide)⟩ dX13_isKeyword_168
                            · have c135 : (r130).toInt = (0 : Int) := hq_eqi.mp c135
                              refine lv_aload_n hx hb dX13_isKeyword_136 rfl (lv_at hl 1 rfl) ?_
                              refine va_ldcS (tx := (hp_so.getD 15 ("", 0, "")).2.2) (q := cs (100 + 15)) hx hb hown (hZ.2.2.2.2.2.2.2.2.2.2 15 (by decide)) dX13_isKeyword_137 ?_
                              refine hp_calli (hp_runV (As := [.ref (cs (100 + 15))]) (rest := []) hx hb hml hown hts (t_X13_is l D cs B G  V127 n hP.1 q hR (mo) h_mo 15 (by decide) ho133  (by omega) (by omega) (by omega) (by omega) (by omega) (by omega) (by omega) (by omega) (by assumption) ) hZ ho133 cv_X13_103 rfl rfl ⟨Nat.le_of_ble_eq_true rfl, Nat.le_of_ble_eq_true rfl⟩ rfl hl.1 rfl (Nat.le_of_ble_eq_true rfl) dX13_isKeyword_139 ⟨(Nat.le_of_ble_eq_true rfl), (Nat.le_of_ble_eq_true rfl)⟩) hZ (fun r139 V136 n137 _ _ hw138 hZ => ?_)
                              obtain ⟨rfl, hq140, ho142, hr141⟩ := hw138
                              have hP := hP.trans hq140 (fun _ _ => rfl)
                              have b143 := hq_rng r139
                              refine lv_if_ne (tgt := 163) hx hb dX13_isKeyword_142 (by decide) (fun c144 => ?_) (fun c144 => ?_)
                              · have c144 : ¬ (r139).toInt = (0 : Int) := fun h9 => c144 (hq_eqi.mpr h9)
                                refine lv_iconst (v := 1) hx hb dX13_isKeyword_163 (by decide) ?_
                                refine lv_goto (tgt := 168) hx hb dX13_isKeyword_164 (by decide) ?_
                                exact hp_zret hx hb hr rfl hlocks hZ ⟨rfl, hP, ho142, (by decide)⟩ dX13_isKeyword_168
                              · have c144 : (r139).toInt = (0 : Int) := hq_eqi.mp c144
                                refine lv_aload_n hx hb dX13_isKeyword_145 rfl (lv_at hl 1 rfl) ?_
                                refine va_ldcS (tx := (hp_so.getD 16 ("", 0, "")).2.2) (q := cs (100 + 16)) hx hb hown (hZ.2.2.2.2.2.2.2.2.2.2 16 (by decide)) dX13_isKeyword_146 ?_
                                refine hp_calli (hp_runV (As := [.ref (cs (100 + 16))]) (rest := []) hx hb hml hown hts (t_X13_is l D cs B G  V136 n hP.1 q hR (mo) h_mo 16 (by decide) ho142  (by omega) (by omega) (by omega) (by omega) (by omega) (by omega) (by omega) (by omega) (by assumption) ) hZ ho142 cv_X13_103 rfl rfl ⟨Nat.le_of_ble_eq_true rfl, Nat.le_of_ble_eq_true rfl⟩ rfl hl.1 rfl (Nat.le_of_ble_eq_true rfl) dX13_isKeyword_148 ⟨(Nat.le_of_ble_eq_true rfl), (Nat.le_of_ble_eq_true rfl)⟩) hZ (fun r148 V145 n146 _ _ hw147 hZ => ?_)
                                obtain ⟨rfl, hq149, ho151, hr150⟩ := hw147
                                have hP := hP.trans hq149 (fun _ _ => rfl)
                                have b152 := hq_rng r148
                                refine lv_if_ne (tgt := 163) hx hb dX13_isKeyword_151 (by decide) (fun c153 => ?_) (fun c153 => ?_)
                                · have c153 : ¬ (r148).toInt = (0 : Int) := fun h9 => c153 (hq_eqi.mpr h9)
                                  refine lv_iconst (v := 1) hx hb dX13_isKeyword_163 (by decide) ?_
                                  refine lv_goto (tgt := 168) hx hb dX13_isKeyword_164 (by decide) ?_
                                  exact hp_zret hx hb hr rfl hlocks hZ ⟨rfl, hP, ho151, (by decide)⟩ dX13_isKeyword_168
                                · have c153 : (r148).toInt = (0 : Int) := hq_eqi.mp c153
                                  refine lv_aload_n hx hb dX13_isKeyword_154 rfl (lv_at hl 1 rfl) ?_
                                  refine va_ldcS (tx := (hp_so.getD 17 ("", 0, "")).2.2) (q := cs (100 + 17)) hx hb hown (hZ.2.2.2.2.2.2.2.2.2.2 17 (by decide)) dX13_isKeyword_155 ?_
                                  refine hp_calli (hp_runV (As := [.ref (cs (100 + 17))]) (rest := []) hx hb hml hown hts (t_X13_is l D cs B G  V145 n hP.1 q hR (mo) h_mo 17 (by decide) ho151  (by omega) (by omega) (by omega) (by omega) (by omega) (by omega) (by omega) (by omega) (by assumption) ) hZ ho151 cv_X13_103 rfl rfl ⟨Nat.le_of_ble_eq_true rfl, Nat.le_of_ble_eq_true rfl⟩ rfl hl.1 rfl (Nat.le_of_ble_eq_true rfl) dX13_isKeyword_157 ⟨(Nat.le_of_ble_eq_true rfl), (Nat.le_of_ble_eq_true rfl)⟩) hZ (fun r157 V154 n155 _ _ hw156 hZ => ?_)
                                  obtain ⟨rfl, hq158, ho160, hr159⟩ := hw156
                                  have hP := hP.trans hq158 (fun _ _ => rfl)
                                  have b161 := hq_rng r157
                                  refine lv_if_eq (tgt := 167) hx hb dX13_isKeyword_160 (by decide) (fun c162 => ?_) (fun c162 => ?_)
                                  · have c162 : (r157).toInt = (0 : Int) := hq_eqi.mp c162
                                    refine lv_iconst (v := 0) hx hb dX13_isKeyword_167 (by decide) ?_
                                    exact hp_zret hx hb hr rfl hlocks hZ ⟨rfl, hP, ho160, (by decide)⟩ dX13_isKeyword_168
                                  · have c162 : ¬ (r157).toInt = (0 : Int) := fun h9 => c162 (hq_eqi.mpr h9)
                                    refine lv_iconst (v := 1) hx hb dX13_isKeyword_163 (by decide) ?_
                                    refine lv_goto (tgt := 168) hx hb dX13_isKeyword_164 (by decide) ?_
                                    exact hp_zret hx hb hr rfl hlocks hZ ⟨rfl, hP, ho160, (by decide)⟩ dX13_isKeyword_168
                  · have c89 : ¬ (r84).toInt = (0 : Int) := fun h9 => c89 (hq_eqi.mpr h9)
                    refine lv_iconst (v := 1) hx hb dX13_isKeyword_81 (by decide) ?_
                    refine lv_goto (tgt := 86) hx hb dX13_isKeyword_82 (by decide) ?_
                    refine lv_istore_n (lv' := [(1, .int (1)), (0, .ref (mo))]) hx hb dX13_isKeyword_86 rfl hl (by decide) rfl (fun ls hl => ?_)
                    refine lv_iload_n hx hb dX13_isKeyword_87 rfl (lv_at hl 0 rfl) ?_
                    refine lv_if_ne (tgt := 163) hx hb dX13_isKeyword_88 (by decide) (fun c163 => ?_) (fun c163 => absurd c163 (by decide))
                    refine lv_iconst (v := 1) hx hb dX13_isKeyword_163 (by decide) ?_
                    refine lv_goto (tgt := 168) hx hb dX13_isKeyword_164 (by decide) ?_
                    exact hp_zret hx hb hr rfl hlocks hZ ⟨rfl, hP, ho87, (by decide)⟩ dX13_isKeyword_168

set_option maxHeartbeats 4000000 in
set_option maxRecDepth 100000 in
theorem t_X13_need (l : Launch) (D : va_G) (cs : Nat → ClassId) (B : Nat) (G : hq_G) (V : hp_V) (n : Nat) (hI : hq_I cs G V) (q : Nat) (hR : hq_RT G q) (mo : Nat) (h_mo : G mo = some (24, 0, 0, 0)) (i : Nat) (h_i : i < 18) {m_tp m_sz m_fr m_bh m_hd m_ft m_fa m_le m_fo m_as m_fd m_bc m_bg m_bs m_be m_b0 m_b1 m_cm m_hc : Int32} (ho_mo : V mo = some (.inr (13, hm_o q (m_tp) (m_sz) (m_fr) (m_bh) (m_hd) (m_ft) (m_fa) (m_le) (m_fo) (m_as) (m_fd) (m_bc) (m_bg) (m_bs) (m_be) (m_b0) (m_b1) (m_cm) (m_hc)))) (hi_mo0 : 0 ≤ m_tp.toInt ∧ m_tp.toInt ≤ 4000) (hi_mo1 : 0 ≤ m_sz.toInt ∧ m_sz.toInt ≤ 4000) (hi_mo2 : 0 ≤ m_le.toInt ∧ m_le.toInt ≤ 276) (hi_mo3 : 0 ≤ m_fo.toInt ∧ m_fo.toInt ≤ 4) (hi_mo4 : 0 ≤ m_as.toInt ∧ m_as.toInt ≤ 4000) (hi_mo5 : 0 ≤ m_fd.toInt ∧ m_fd.toInt ≤ 900) (hi_mo6 : 0 ≤ m_cm.toInt ∧ m_cm.toInt ≤ 2) (hi_mo7 : 0 ≤ m_hc.toInt ∧ m_hc.toInt ≤ 1) (hi_mo8 : hm_SC m_sz m_fr m_bh m_hd) : hq_M l yX13_need cX13_need 2 none ({ frames := 6, cells := 0, slots := 0, locals := 129 }) D cs B V n [.ref (mo), .ref (cs (100 + i))] (hq_QX D cs B (fun v V' n' => v = none ∧ n = n' ∧ hq_P cs G (fun g => g.1 == 1) V V' ∧ (∃ (m_fr1 : Int32) (m_bh1 : Int32) (m_hd1 : Int32) (m_ft1 : Int32) (m_fa1 : Int32), V' mo = some (.inr (13, hm_o q (m_tp) (m_sz) (m_fr1) (m_bh1) (m_hd1) (m_ft1) (m_fa1) (m_le) (m_fo) (m_as) (m_fd) (m_bc) (m_bg) (m_bs) (m_be) (m_b0) (m_b1) (m_cm) (m_hc))) ∧ (hm_SC m_sz m_fr1 m_bh1 m_hd1) ∧ (m_bh.toInt ≤ m_bh1.toInt))) (fun x V' n' => x = q + 19 ∧ n = n' ∧ hq_P cs G (fun g => g.1 == 1) V V' ∧ (∃ (m_fr1 : Int32) (m_bh1 : Int32) (m_hd1 : Int32) (m_ft1 : Int32) (m_fa1 : Int32), V' mo = some (.inr (13, hm_o q (m_tp) (m_sz) (m_fr1) (m_bh1) (m_hd1) (m_ft1) (m_fa1) (m_le) (m_fo) (m_as) (m_fd) (m_bc) (m_bg) (m_bs) (m_be) (m_b0) (m_b1) (m_cm) (m_hc))) ∧ (hm_SC m_sz m_fr1 m_bh1 m_hd1) ∧ (m_bh.toInt ≤ m_bh1.toInt)))) 0 0 := by
  refine hq_walk (R0 := RX13) (by decide) rfl ?_ (Nat.le_of_ble_eq_true rfl)
  intro p e s m below meth c ls hx hb hr hts hown hlocks hin hml hnx hZ hl
  have hP : hq_P cs G (fun g => g.1 == 1) V V := hq_P.rf hI
  have hl : lv_has ls 2 [(0, .ref (mo)), (1, .ref (cs (100 + i)))] := hl
  have hb_m_tp := hq_rng m_tp
  have hb_m_sz := hq_rng m_sz
  have hb_m_fr := hq_rng m_fr
  have hb_m_bh := hq_rng m_bh
  have hb_m_hd := hq_rng m_hd
  have hb_m_ft := hq_rng m_ft
  have hb_m_fa := hq_rng m_fa
  have hb_m_le := hq_rng m_le
  have hb_m_fo := hq_rng m_fo
  have hb_m_as := hq_rng m_as
  have hb_m_fd := hq_rng m_fd
  have hb_m_bc := hq_rng m_bc
  have hb_m_bg := hq_rng m_bg
  have hb_m_bs := hq_rng m_bs
  have hb_m_be := hq_rng m_be
  have hb_m_b0 := hq_rng m_b0
  have hb_m_b1 := hq_rng m_b1
  have hb_m_cm := hq_rng m_cm
  have hb_m_hc := hq_rng m_hc
  refine lv_aload_n hx hb dX13_need_0 rfl (lv_at hl 0 rfl) ?_
  refine lv_aload_n hx hb dX13_need_1 rfl (lv_at hl 1 rfl) ?_
  refine hp_calli (hp_runV (As := [.ref (cs (100 + i))]) (rest := []) hx hb hml hown hts (t_X13_is l D cs B G  V n hP.1 q hR (mo) h_mo i h_i ho_mo  (by omega) (by omega) (by omega) (by omega) (by omega) (by omega) (by omega) (by omega) (by assumption) ) hZ ho_mo cv_X13_103 rfl rfl ⟨Nat.le_of_ble_eq_true rfl, Nat.le_of_ble_eq_true rfl⟩ rfl hl.1 rfl (Nat.le_of_ble_eq_true rfl) dX13_need_2 ⟨(Nat.le_of_ble_eq_true rfl), (Nat.le_of_ble_eq_true rfl)⟩) hZ (fun r4 V1 n2 _ _ hw3 hZ => ?_)
  obtain ⟨rfl, hq5, ho7, hr6⟩ := hw3
  have hP := hP.trans hq5 (fun _ _ => rfl)
  have b8 := hq_rng r4
  refine lv_if_ne (tgt := 14) hx hb dX13_need_5 (by decide) (fun c9 => ?_) (fun c9 => ?_)
  · have c9 : ¬ (r4).toInt = (0 : Int) := fun h9 => c9 (hq_eqi.mpr h9)
    refine lv_aload_n hx hb dX13_need_14 rfl (lv_at hl 0 rfl) ?_
    refine hp_callv (hp_runV (As := []) (rest := []) hx hb hml hown hts (t_X13_scan l D cs B G  V1 n hP.1 q hR (mo) h_mo ho7  (by omega) (by omega) (by omega) (by omega) (by omega) (by omega) (by omega) (by omega) (hm_SC.s0 (by assumption)) (hm_SC.s1 (by assumption) (by first | omega | (have h8 := hm_Is.hd (by assumption) (by omega); omega)))) hZ ho7 cv_X13_111 rfl rfl ⟨Nat.le_of_ble_eq_true rfl, Nat.le_of_ble_eq_true rfl⟩ rfl hl.1 rfl (Nat.le_of_ble_eq_true rfl) dX13_need_15 ⟨(Nat.le_of_ble_eq_true rfl), (Nat.le_of_ble_eq_true rfl)⟩) hZ (fun V10 n11 _ _ hw12 hZ => ?_)
    obtain ⟨rfl, hq14, ⟨z16, z17, z18, ho19, hi20, hi21, hi22⟩⟩ := hw12
    have hP := hP.trans hq14 (by intro g h; simp_all)
    have b23 := hq_rng z16
    have b24 := hq_rng z17
    have b25 := hq_rng z18
    exact hq_vret hx hb hr hlocks hZ ⟨rfl, rfl, hP, ⟨z16, z17, z18, m_ft, m_fa, ho19, by assumption, by omega⟩⟩ dX13_need_18
  · have c9 : (r4).toInt = (0 : Int) := hq_eqi.mp c9
    refine lv_aload_n hx hb dX13_need_8 rfl (lv_at hl 0 rfl) ?_
    refine lv_iconst (v := 1) hx hb dX13_need_9 (by decide) ?_
    have hl35 : (1 : Int32).toInt = 1 := by decide
    refine hp_callq (hp_runV (As := [.int (1)]) (rest := []) hx hb hml hown hts (t_X13_wrong l D cs B G  V1 n hP.1 q hR (mo) h_mo (1) ho7  (by omega) (by omega) (by omega) (by omega) (by omega) (by omega) (by omega) (by omega) ) hZ ho7 cv_X13_107 rfl rfl ⟨Nat.le_of_ble_eq_true rfl, Nat.le_of_ble_eq_true rfl⟩ rfl hl.1 rfl (Nat.le_of_ble_eq_true rfl) dX13_need_10 ⟨(Nat.le_of_ble_eq_true rfl), (Nat.le_of_ble_eq_true rfl)⟩) hZ (fun r29 V26 n27 _ _ hw28 hZ => ?_)
    obtain ⟨rfl, hq30, ⟨z32, z33, ho34⟩, hr31⟩ := hw28
    have hP := hP.trans hq30 (by intro g h; simp_all)
    have b36 := hq_rng z32
    have b37 := hq_rng z33
    subst hr31
    refine W.eq (g2 := F0 m 13 ls [.ref (q + 19)]) rfl ?_
    exact hq_athrow hx hb hnx hlocks hZ ⟨rfl, rfl, hP, ⟨m_fr, m_bh, m_hd, z32, z33, ho34, by assumption, by omega⟩⟩ dX13_need_13

set_option maxHeartbeats 4000000 in
set_option maxRecDepth 100000 in
theorem t_X13_needName (l : Launch) (D : va_G) (cs : Nat → ClassId) (B : Nat) (G : hq_G) (V : hp_V) (n : Nat) (hI : hq_I cs G V) (q : Nat) (hR : hq_RT G q) (mo : Nat) (h_mo : G mo = some (24, 0, 0, 0)) {m_tp m_sz m_fr m_bh m_hd m_ft m_fa m_le m_fo m_as m_fd m_bc m_bg m_bs m_be m_b0 m_b1 m_cm m_hc : Int32} (ho_mo : V mo = some (.inr (13, hm_o q (m_tp) (m_sz) (m_fr) (m_bh) (m_hd) (m_ft) (m_fa) (m_le) (m_fo) (m_as) (m_fd) (m_bc) (m_bg) (m_bs) (m_be) (m_b0) (m_b1) (m_cm) (m_hc)))) (hi_mo0 : 0 ≤ m_tp.toInt ∧ m_tp.toInt ≤ 4000) (hi_mo1 : 0 ≤ m_sz.toInt ∧ m_sz.toInt ≤ 4000) (hi_mo2 : 0 ≤ m_le.toInt ∧ m_le.toInt ≤ 276) (hi_mo3 : 0 ≤ m_fo.toInt ∧ m_fo.toInt ≤ 4) (hi_mo4 : 0 ≤ m_as.toInt ∧ m_as.toInt ≤ 4000) (hi_mo5 : 0 ≤ m_fd.toInt ∧ m_fd.toInt ≤ 900) (hi_mo6 : 0 ≤ m_cm.toInt ∧ m_cm.toInt ≤ 2) (hi_mo7 : 0 ≤ m_hc.toInt ∧ m_hc.toInt ≤ 1) (hi_mo8 : hm_SC m_sz m_fr m_bh m_hd) : hq_M l yX13_needName cX13_needName 1 none ({ frames := 7, cells := 0, slots := 0, locals := 150 }) D cs B V n [.ref (mo)] (hq_QX D cs B (fun v V' n' => v = none ∧ n = n' ∧ hq_P cs G (fun g => g.1 == 1) V V' ∧ (∃ (m_ft1 : Int32) (m_fa1 : Int32), V' mo = some (.inr (13, hm_o q (m_tp) (m_sz) (m_fr) (m_bh) (m_hd) (m_ft1) (m_fa1) (m_le) (m_fo) (m_as) (m_fd) (m_bc) (m_bg) (m_bs) (m_be) (m_b0) (m_b1) (m_cm) (m_hc)))) ∧ (m_hd.toInt = 1)) (fun x V' n' => x = q + 19 ∧ n = n' ∧ hq_P cs G (fun g => g.1 == 1) V V' ∧ (∃ (m_ft1 : Int32) (m_fa1 : Int32), V' mo = some (.inr (13, hm_o q (m_tp) (m_sz) (m_fr) (m_bh) (m_hd) (m_ft1) (m_fa1) (m_le) (m_fo) (m_as) (m_fd) (m_bc) (m_bg) (m_bs) (m_be) (m_b0) (m_b1) (m_cm) (m_hc)))))) 0 0 := by
  refine hq_walk (R0 := RX13) (by decide) rfl ?_ (Nat.le_of_ble_eq_true rfl)
  intro p e s m below meth c ls hx hb hr hts hown hlocks hin hml hnx hZ hl
  have hP : hq_P cs G (fun g => g.1 == 1) V V := hq_P.rf hI
  have hl : lv_has ls 1 [(0, .ref (mo))] := hl
  have hb_m_tp := hq_rng m_tp
  have hb_m_sz := hq_rng m_sz
  have hb_m_fr := hq_rng m_fr
  have hb_m_bh := hq_rng m_bh
  have hb_m_hd := hq_rng m_hd
  have hb_m_ft := hq_rng m_ft
  have hb_m_fa := hq_rng m_fa
  have hb_m_le := hq_rng m_le
  have hb_m_fo := hq_rng m_fo
  have hb_m_as := hq_rng m_as
  have hb_m_fd := hq_rng m_fd
  have hb_m_bc := hq_rng m_bc
  have hb_m_bg := hq_rng m_bg
  have hb_m_bs := hq_rng m_bs
  have hb_m_be := hq_rng m_be
  have hb_m_b0 := hq_rng m_b0
  have hb_m_b1 := hq_rng m_b1
  have hb_m_cm := hq_rng m_cm
  have hb_m_hc := hq_rng m_hc
  refine lv_aload_n hx hb dX13_needName_0 rfl (lv_at hl 0 rfl) ?_
  refine hp_get (v := .int (m_hd)) hx hb hts hown hZ ho_mo fl_X13_83 rfl dX13_needName_1 ?_
  refine lv_iconst (v := 1) hx hb dX13_needName_4 (by decide) ?_
  refine lv_icmp_ne (tgt := 15) hx hb dX13_needName_5 (by decide) (fun c1 => ?_) (fun c1 => ?_)
  · have c1 : ¬ (m_hd).toInt = (1 : Int) := fun h9 => c1 (hq_eqi.mpr h9)
    refine lv_aload_n hx hb dX13_needName_15 rfl (lv_at hl 0 rfl) ?_
    refine lv_iconst (v := 1) hx hb dX13_needName_16 (by decide) ?_
    have hl11 : (1 : Int32).toInt = 1 := by decide
    refine hp_callq (hp_runV (As := [.int (1)]) (rest := []) hx hb hml hown hts (t_X13_wrong l D cs B G  V n hP.1 q hR (mo) h_mo (1) ho_mo  (by omega) (by omega) (by omega) (by omega) (by omega) (by omega) (by omega) (by omega) ) hZ ho_mo cv_X13_107 rfl rfl ⟨Nat.le_of_ble_eq_true rfl, Nat.le_of_ble_eq_true rfl⟩ rfl hl.1 rfl (Nat.le_of_ble_eq_true rfl) dX13_needName_17 ⟨(Nat.le_of_ble_eq_true rfl), (Nat.le_of_ble_eq_true rfl)⟩) hZ (fun r5 V2 n3 _ _ hw4 hZ => ?_)
    obtain ⟨rfl, hq6, ⟨z8, z9, ho10⟩, hr7⟩ := hw4
    have hP := hP.trans hq6 (by intro g h; simp_all)
    have b12 := hq_rng z8
    have b13 := hq_rng z9
    subst hr7
    refine W.eq (g2 := F0 m 20 ls [.ref (q + 19)]) rfl ?_
    exact hq_athrow hx hb hnx hlocks hZ ⟨rfl, rfl, hP, ⟨z8, z9, ho10⟩⟩ dX13_needName_20
  · have c1 : (m_hd).toInt = (1 : Int) := hq_eqi.mp c1
    refine lv_aload_n hx hb dX13_needName_8 rfl (lv_at hl 0 rfl) ?_
    refine hp_calli (hp_runV (As := []) (rest := []) hx hb hml hown hts (t_X13_isKeyword l D cs B G  V n hP.1 q hR (mo) h_mo ho_mo  (by omega) (by omega) (by omega) (by omega) (by omega) (by omega) (by omega) (by omega) (by assumption) ) hZ ho_mo cv_X13_146 rfl rfl ⟨Nat.le_of_ble_eq_true rfl, Nat.le_of_ble_eq_true rfl⟩ rfl hl.1 rfl (Nat.le_of_ble_eq_true rfl) dX13_needName_9 ⟨(Nat.le_of_ble_eq_true rfl), (Nat.le_of_ble_eq_true rfl)⟩) hZ (fun r17 V14 n15 _ _ hw16 hZ => ?_)
    obtain ⟨rfl, hq18, ho20, hr19⟩ := hw16
    have hP := hP.trans hq18 (fun _ _ => rfl)
    have b21 := hq_rng r17
    refine lv_if_eq (tgt := 21) hx hb dX13_needName_12 (by decide) (fun c22 => ?_) (fun c22 => ?_)
    · have c22 : (r17).toInt = (0 : Int) := hq_eqi.mp c22
      exact hq_vret hx hb hr hlocks hZ ⟨rfl, rfl, hP, ⟨m_ft, m_fa, ho20⟩, (by omega)⟩ dX13_needName_21
    · have c22 : ¬ (r17).toInt = (0 : Int) := fun h9 => c22 (hq_eqi.mpr h9)
      refine lv_aload_n hx hb dX13_needName_15 rfl (lv_at hl 0 rfl) ?_
      refine lv_iconst (v := 1) hx hb dX13_needName_16 (by decide) ?_
      have hl32 : (1 : Int32).toInt = 1 := by decide
      refine hp_callq (hp_runV (As := [.int (1)]) (rest := []) hx hb hml hown hts (t_X13_wrong l D cs B G  V14 n hP.1 q hR (mo) h_mo (1) ho20  (by omega) (by omega) (by omega) (by omega) (by omega) (by omega) (by omega) (by omega) ) hZ ho20 cv_X13_107 rfl rfl ⟨Nat.le_of_ble_eq_true rfl, Nat.le_of_ble_eq_true rfl⟩ rfl hl.1 rfl (Nat.le_of_ble_eq_true rfl) dX13_needName_17 ⟨(Nat.le_of_ble_eq_true rfl), (Nat.le_of_ble_eq_true rfl)⟩) hZ (fun r26 V23 n24 _ _ hw25 hZ => ?_)
      obtain ⟨rfl, hq27, ⟨z29, z30, ho31⟩, hr28⟩ := hw25
      have hP := hP.trans hq27 (by intro g h; simp_all)
      have b33 := hq_rng z29
      have b34 := hq_rng z30
      subst hr28
      refine W.eq (g2 := F0 m 20 ls [.ref (q + 19)]) rfl ?_
      exact hq_athrow hx hb hnx hlocks hZ ⟨rfl, rfl, hP, ⟨z29, z30, ho31⟩⟩ dX13_needName_20

set_option maxHeartbeats 4000000 in
set_option maxRecDepth 100000 in
theorem t_X13_digit (l : Launch) (D : va_G) (cs : Nat → ClassId) (B : Nat) (G : hq_G) (V : hp_V) (n : Nat) (hI : hq_I cs G V) (q : Nat) (hR : hq_RT G q) (mo : Nat) (h_mo : G mo = some (24, 0, 0, 0)) (k : Int32) {m_tp m_sz m_fr m_bh m_hd m_ft m_fa m_le m_fo m_as m_fd m_bc m_bg m_bs m_be m_b0 m_b1 m_cm m_hc : Int32} (ho_mo : V mo = some (.inr (13, hm_o q (m_tp) (m_sz) (m_fr) (m_bh) (m_hd) (m_ft) (m_fa) (m_le) (m_fo) (m_as) (m_fd) (m_bc) (m_bg) (m_bs) (m_be) (m_b0) (m_b1) (m_cm) (m_hc)))) (hi_mo0 : 0 ≤ m_tp.toInt ∧ m_tp.toInt ≤ 4000) (hi_mo1 : 0 ≤ m_sz.toInt ∧ m_sz.toInt ≤ 4000) (hi_mo2 : 0 ≤ m_le.toInt ∧ m_le.toInt ≤ 276) (hi_mo3 : 0 ≤ m_fo.toInt ∧ m_fo.toInt ≤ 4) (hi_mo4 : 0 ≤ m_as.toInt ∧ m_as.toInt ≤ 4000) (hi_mo5 : 0 ≤ m_fd.toInt ∧ m_fd.toInt ≤ 900) (hi_mo6 : 0 ≤ m_cm.toInt ∧ m_cm.toInt ≤ 2) (hi_mo7 : 0 ≤ m_hc.toInt ∧ m_hc.toInt ≤ 1) (hi_mo8 : hm_SC m_sz m_fr m_bh m_hd) : hq_M l yX13_digit cX13_digit 3 (some .int) ({ frames := 3, cells := 0, slots := 0, locals := 64 }) D cs B V n [.ref (mo), .int (k)] (hq_QX D cs B (fun v V' n' => ∃ r : Int32, v = some (.int r) ∧ n = n' ∧ hq_P cs G (fun g => g.1 == 1) V V' ∧ (∃ (m_fr1 : Int32) (m_bh1 : Int32) (m_hd1 : Int32) (m_ft1 : Int32) (m_fa1 : Int32), V' mo = some (.inr (13, hm_o q (m_tp) (m_sz) (m_fr1) (m_bh1) (m_hd1) (m_ft1) (m_fa1) (m_le) (m_fo) (m_as) (m_fd) (m_bc) (m_bg) (m_bs) (m_be) (m_b0) (m_b1) (m_cm) (m_hc))) ∧ (hm_SC m_sz m_fr1 m_bh1 m_hd1) ∧ (m_bh.toInt ≤ m_bh1.toInt)) ∧ True) (fun x V' n' => x = q + 19 ∧ n = n' ∧ hq_P cs G (fun g => g.1 == 1) V V' ∧ (∃ (m_fr1 : Int32) (m_bh1 : Int32) (m_hd1 : Int32) (m_ft1 : Int32) (m_fa1 : Int32), V' mo = some (.inr (13, hm_o q (m_tp) (m_sz) (m_fr1) (m_bh1) (m_hd1) (m_ft1) (m_fa1) (m_le) (m_fo) (m_as) (m_fd) (m_bc) (m_bg) (m_bs) (m_be) (m_b0) (m_b1) (m_cm) (m_hc))) ∧ (hm_SC m_sz m_fr1 m_bh1 m_hd1) ∧ (m_bh.toInt ≤ m_bh1.toInt)))) 0 0 := by
  refine hq_walk (R0 := RX13) (by decide) rfl ?_ (Nat.le_of_ble_eq_true rfl)
  intro p e s m below meth c ls hx hb hr hts hown hlocks hin hml hnx hZ hl
  have hP : hq_P cs G (fun g => g.1 == 1) V V := hq_P.rf hI
  have hl : lv_has ls 3 [(0, .ref (mo)), (1, .int (k))] := hl
  have hb_k := hq_rng k
  have hb_m_tp := hq_rng m_tp
  have hb_m_sz := hq_rng m_sz
  have hb_m_fr := hq_rng m_fr
  have hb_m_bh := hq_rng m_bh
  have hb_m_hd := hq_rng m_hd
  have hb_m_ft := hq_rng m_ft
  have hb_m_fa := hq_rng m_fa
  have hb_m_le := hq_rng m_le
  have hb_m_fo := hq_rng m_fo
  have hb_m_as := hq_rng m_as
  have hb_m_fd := hq_rng m_fd
  have hb_m_bc := hq_rng m_bc
  have hb_m_bg := hq_rng m_bg
  have hb_m_bs := hq_rng m_bs
  have hb_m_be := hq_rng m_be
  have hb_m_b0 := hq_rng m_b0
  have hb_m_b1 := hq_rng m_b1
  have hb_m_cm := hq_rng m_cm
  have hb_m_hc := hq_rng m_hc
  have hscu := hm_SC.out (by assumption)
  refine lv_aload_n hx hb dX13_digit_0 rfl (lv_at hl 0 rfl) ?_
  refine hp_get (v := .int (m_hd)) hx hb hts hown hZ ho_mo fl_X13_83 rfl dX13_digit_1 ?_
  refine lv_iconst (v := 2) hx hb dX13_digit_4 (by decide) ?_
  refine lv_icmp_eq (tgt := 14) hx hb dX13_digit_5 (by decide) (fun c1 => ?_) (fun c1 => ?_)
  · have c1 : (m_hd).toInt = (2 : Int) := hq_eqi.mp c1
    refine lv_aload_n hx hb dX13_digit_14 rfl (lv_at hl 0 rfl) ?_
    refine hp_get (v := .ref (q + 20)) hx hb hts hown hZ ho_mo fl_X13_73 rfl dX13_digit_15 ?_
    refine lv_aload_n hx hb dX13_digit_18 rfl (lv_at hl 0 rfl) ?_
    refine hp_get (v := .int (m_fr)) hx hb hts hown hZ ho_mo fl_X13_60 rfl dX13_digit_19 ?_
    obtain ⟨hN4, g3, eV2⟩ := hq_o20 hP.1 (hr_20 hR)
    refine hp_bald hx hb hZ eV2 (hq_in (by omega) (by omega)) dX13_digit_22 ?_
    refine lv_topi (fun y6 ey7 => ?_)
    have b8 := hq_rng y6
    refine lv_bipush (v := 48) hx hb dX13_digit_23 (by decide) ?_
    refine lv_isub hx hb dX13_digit_25 ?_
    refine lv_topi (fun y9 ey10 => ?_)
    obtain ⟨k11, hk12, b13, b14⟩ := hq_sub (y6) (48)
    rw [← ey10] at hk12 b13 b14
    have hk12 : (y9).toInt = (y6).toInt - (48 : Int) + k11 * 4294967296 := hk12
    refine lv_istore_n (lv' := [(2, .int (y9)), (0, .ref (mo)), (1, .int (k))]) hx hb dX13_digit_26 rfl hl (by decide) rfl (fun ls hl => ?_)
    refine lv_iload_n hx hb dX13_digit_27 rfl (lv_at hl 0 rfl) ?_
    refine lv_iload_n hx hb dX13_digit_28 rfl (lv_at hl 2 rfl) ?_
    refine lv_icmp_le (tgt := 38) hx hb dX13_digit_29 (by decide) (fun c15 => ?_) (fun c15 => ?_)
    · have c15 : (y9).toInt ≤ (k).toInt := hq_lei.mp c15
      refine lv_aload_n hx hb dX13_digit_38 rfl (lv_at hl 1 rfl) ?_
      refine hp_callv (hp_runV (As := []) (rest := []) hx hb hml hown hts (t_X13_scan l D cs B G  V n hP.1 q hR (mo) h_mo ho_mo  (by omega) (by omega) (by omega) (by omega) (by omega) (by omega) (by omega) (by omega) (hm_SC.s0 (by assumption)) (hm_SC.s1 (by assumption) (by first | omega | (have h8 := hm_Is.hd (by assumption) (by omega); omega)))) hZ ho_mo cv_X13_111 rfl rfl ⟨Nat.le_of_ble_eq_true rfl, Nat.le_of_ble_eq_true rfl⟩ rfl hl.1 rfl (Nat.le_of_ble_eq_true rfl) dX13_digit_39 ⟨(Nat.le_of_ble_eq_true rfl), (Nat.le_of_ble_eq_true rfl)⟩) hZ (fun V16 n17 _ _ hw18 hZ => ?_)
      obtain ⟨rfl, hq20, ⟨z22, z23, z24, ho25, hi26, hi27, hi28⟩⟩ := hw18
      have hP := hP.trans hq20 (by intro g h; simp_all)
      have b29 := hq_rng z22
      have b30 := hq_rng z23
      have b31 := hq_rng z24
      refine lv_iload_n hx hb dX13_digit_42 rfl (lv_at hl 0 rfl) ?_
      exact hq_iret hx hb hr hlocks hZ ⟨_, rfl, rfl, hP, ⟨z22, z23, z24, m_ft, m_fa, ho25, by assumption, by omega⟩, trivial⟩ dX13_digit_43
    · have c15 : ¬ (y9).toInt ≤ (k).toInt := fun h9 => c15 (hq_lei.mpr h9)
      refine lv_aload_n hx hb dX13_digit_32 rfl (lv_at hl 1 rfl) ?_
      refine lv_iconst (v := 3) hx hb dX13_digit_33 (by decide) ?_
      have hl41 : (3 : Int32).toInt = 3 := by decide
      refine hp_callq (hp_runV (As := [.int (3)]) (rest := []) hx hb hml hown hts (t_X13_wrong l D cs B G  V n hP.1 q hR (mo) h_mo (3) ho_mo  (by omega) (by omega) (by omega) (by omega) (by omega) (by omega) (by omega) (by omega) ) hZ ho_mo cv_X13_107 rfl rfl ⟨Nat.le_of_ble_eq_true rfl, Nat.le_of_ble_eq_true rfl⟩ rfl hl.1 rfl (Nat.le_of_ble_eq_true rfl) dX13_digit_34 ⟨(Nat.le_of_ble_eq_true rfl), (Nat.le_of_ble_eq_true rfl)⟩) hZ (fun r35 V32 n33 _ _ hw34 hZ => ?_)
      obtain ⟨rfl, hq36, ⟨z38, z39, ho40⟩, hr37⟩ := hw34
      have hP := hP.trans hq36 (by intro g h; simp_all)
      have b42 := hq_rng z38
      have b43 := hq_rng z39
      subst hr37
      refine W.eq (g2 := F0 m 37 ls [.ref (q + 19)]) rfl ?_
      exact hq_athrow hx hb hnx hlocks hZ ⟨rfl, rfl, hP, ⟨m_fr, m_bh, m_hd, z38, z39, ho40, by assumption, by omega⟩⟩ dX13_digit_37
  · have c1 : ¬ (m_hd).toInt = (2 : Int) := fun h9 => c1 (hq_eqi.mpr h9)
    refine lv_aload_n hx hb dX13_digit_8 rfl (lv_at hl 0 rfl) ?_
    refine lv_iconst (v := 1) hx hb dX13_digit_9 (by decide) ?_
    have hl53 : (1 : Int32).toInt = 1 := by decide
    refine hp_callq (hp_runV (As := [.int (1)]) (rest := []) hx hb hml hown hts (t_X13_wrong l D cs B G  V n hP.1 q hR (mo) h_mo (1) ho_mo  (by omega) (by omega) (by omega) (by omega) (by omega) (by omega) (by omega) (by omega) ) hZ ho_mo cv_X13_107 rfl rfl ⟨Nat.le_of_ble_eq_true rfl, Nat.le_of_ble_eq_true rfl⟩ rfl hl.1 rfl (Nat.le_of_ble_eq_true rfl) dX13_digit_10 ⟨(Nat.le_of_ble_eq_true rfl), (Nat.le_of_ble_eq_true rfl)⟩) hZ (fun r47 V44 n45 _ _ hw46 hZ => ?_)
    obtain ⟨rfl, hq48, ⟨z50, z51, ho52⟩, hr49⟩ := hw46
    have hP := hP.trans hq48 (by intro g h; simp_all)
    have b54 := hq_rng z50
    have b55 := hq_rng z51
    subst hr49
    refine W.eq (g2 := F0 m 13 ls [.ref (q + 19)]) rfl ?_
    exact hq_athrow hx hb hnx hlocks hZ ⟨rfl, rfl, hP, ⟨m_fr, m_bh, m_hd, z50, z51, ho52, by assumption, by omega⟩⟩ dX13_digit_13

set_option maxHeartbeats 4000000 in
set_option maxRecDepth 100000 in
theorem t_X13_nameIn (l : Launch) (D : va_G) (cs : Nat → ClassId) (B : Nat) (G : hq_G) (V : hp_V) (n : Nat) (hI : hq_I cs G V) (q : Nat) (hR : hq_RT G q) (Nn Ns : Nat) (mo : Nat) (h_mo : G mo = some (24, 0, 0, 0)) (nm : Nat) (h_nm : G nm = some (20, Nn, 41, 0)) (szs : Nat) (h_szs : G szs = some (21, Ns, 2, 41)) (bs : Int32) (mn : Int32) {m_tp m_sz m_fr m_bh m_hd m_ft m_fa m_le m_fo m_as m_fd m_bc m_bg m_bs m_be m_b0 m_b1 m_cm m_hc : Int32} (ho_mo : V mo = some (.inr (13, hm_o q (m_tp) (m_sz) (m_fr) (m_bh) (m_hd) (m_ft) (m_fa) (m_le) (m_fo) (m_as) (m_fd) (m_bc) (m_bg) (m_bs) (m_be) (m_b0) (m_b1) (m_cm) (m_hc)))) (hi_mo0 : 0 ≤ m_tp.toInt ∧ m_tp.toInt ≤ 4000) (hi_mo1 : 0 ≤ m_sz.toInt ∧ m_sz.toInt ≤ 4000) (hi_mo2 : 0 ≤ m_le.toInt ∧ m_le.toInt ≤ 276) (hi_mo3 : 0 ≤ m_fo.toInt ∧ m_fo.toInt ≤ 4) (hi_mo4 : 0 ≤ m_as.toInt ∧ m_as.toInt ≤ 4000) (hi_mo5 : 0 ≤ m_fd.toInt ∧ m_fd.toInt ≤ 900) (hi_mo6 : 0 ≤ m_cm.toInt ∧ m_cm.toInt ≤ 2) (hi_mo7 : 0 ≤ m_hc.toInt ∧ m_hc.toInt ≤ 1) (hi_mo8 : hm_SC m_sz m_fr m_bh m_hd) (hh : m_hd.toInt = 1) (hb0 : 0 ≤ bs.toInt) (hm0 : mn.toInt ≤ 1000) (hm : bs.toInt + mn.toInt ≤ Ns) (hn : 12 * Ns ≤ Nn) (hN : Ns ≤ 1000) : hp_M l yX13_nameIn cX13_nameIn 8 (some .int) ({ frames := 1, cells := 0, slots := 0, locals := 21 }) D cs B V n [.ref (mo), .ref (nm), .ref (szs), .int (bs), .int (mn)] (hp_QI D cs B (fun r V' n' => n = n' ∧ hq_P cs G (fun _ => false) V V' ∧ (V' mo = some (.inr (13, hm_o q (m_tp) (m_sz) (m_fr) (m_bh) (m_hd) (m_ft) (m_fa) (m_le) (m_fo) (m_as) (m_fd) (m_bc) (m_bg) (m_bs) (m_be) (m_b0) (m_b1) (m_cm) (m_hc)))) ∧ (-1 ≤ r.toInt ∧ (r.toInt < mn.toInt ∨ r.toInt = -1)))) 0 0 := by
  refine hp_walk (R0 := RX13) (by decide) rfl ?_ (Nat.le_of_ble_eq_true rfl)
  intro p e s m below meth c ls hx hb hr hts hown hlocks hin hml hZ hl
  have hP : hq_P cs G (fun _ => false) V V := hq_P.rf hI
  have hl : lv_has ls 8 [(0, .ref (mo)), (1, .ref (nm)), (2, .ref (szs)), (3, .int (bs)), (4, .int (mn))] := hl
  have hb_bs := hq_rng bs
  have hb_mn := hq_rng mn
  have hb_m_tp := hq_rng m_tp
  have hb_m_sz := hq_rng m_sz
  have hb_m_fr := hq_rng m_fr
  have hb_m_bh := hq_rng m_bh
  have hb_m_hd := hq_rng m_hd
  have hb_m_ft := hq_rng m_ft
  have hb_m_fa := hq_rng m_fa
  have hb_m_le := hq_rng m_le
  have hb_m_fo := hq_rng m_fo
  have hb_m_as := hq_rng m_as
  have hb_m_fd := hq_rng m_fd
  have hb_m_bc := hq_rng m_bc
  have hb_m_bg := hq_rng m_bg
  have hb_m_bs := hq_rng m_bs
  have hb_m_be := hq_rng m_be
  have hb_m_b0 := hq_rng m_b0
  have hb_m_b1 := hq_rng m_b1
  have hb_m_cm := hq_rng m_cm
  have hb_m_hc := hq_rng m_hc
  have hscu := hm_SC.out (by assumption)
  obtain ⟨hN3, g2, eV1, hf4⟩ := hq_o21 hP.1 h_szs
  refine lv_iconst (v := 0) hx hb dX13_nameIn_0 (by decide) ?_
  refine lv_istore (lv' := [(5, .int (0)), (0, .ref (mo)), (1, .ref (nm)), (2, .ref (szs)), (3, .int (bs)), (4, .int (mn))]) hx hb dX13_nameIn_1 hl (by decide) rfl (fun ls hl => ?_)
  have hl5 : (0 : Int32).toInt = 0 := by decide
  suffices lp3 : ∀ (k9 : Nat) (V9 : hp_V) (H9 : Heap) (locs9 : List Loc) (ls : Array Slot) (k : Int32), (2000 - k.toInt).toNat = k9 → hp_Z D cs B s V9 H9 n locs9 → hq_P cs G (fun _ => false) V V9 → 0 ≤ k.toInt → k.toInt ≤ 1000 → lv_has ls 8 [(5, .int (k)), (0, .ref (mo)), (1, .ref (nm)), (2, .ref (szs)), (3, .int (bs)), (4, .int (mn))] → W p l e ({ frames := 1, cells := 0, slots := 0, locals := 21 }) s m ([.ref (mo), .ref (nm), .ref (szs), .int (bs), .int (mn)] : List Value).toArray below meth c H9 locs9 0 0 (MQ below (hp_QI D cs B (fun r V' n' => n = n' ∧ hq_P cs G (fun _ => false) V V' ∧ (V' mo = some (.inr (13, hm_o q (m_tp) (m_sz) (m_fr) (m_bh) (m_hd) (m_ft) (m_fa) (m_le) (m_fo) (m_as) (m_fd) (m_bc) (m_bg) (m_bs) (m_be) (m_b0) (m_b1) (m_cm) (m_hc)))) ∧ (-1 ≤ r.toInt ∧ (r.toInt < mn.toInt ∨ r.toInt = -1)))) ([.ref (mo), .ref (nm), .ref (szs), .int (bs), .int (mn)] : List Value).toArray s 0 0 (hp_F B)) (F0 m 3 ls []) from lp3 _ _ _ _ ls (0) rfl hZ hP (by omega) (by omega) (lv_sub hl [0, 1, 2, 3, 4, 5] rfl)
  intro k9
  induction k9 using Nat.strongRecOn with
  | _ k9 ih3 =>
    intro V9 H9 locs9 ls k  hk3 hZ hP  hv6 hv7 hl
    have hb_k := hq_rng k
    have hP_3 := hP
    refine lv_iload hx hb dX13_nameIn_3 (lv_at hl 0 rfl) ?_
    refine lv_iload hx hb dX13_nameIn_5 (lv_at hl 5 rfl) ?_
    refine lv_icmp_ge (tgt := 108) hx hb dX13_nameIn_7 (by decide) (fun c8 => ?_) (fun c8 => ?_)
    · have c8 : (mn).toInt ≤ (k).toInt := hq_lei.mp c8
      refine lv_iconst (v := -1) hx hb dX13_nameIn_108 (by decide) ?_
      have fx9 : V9 (mo) = some (.inr (13, hm_o q (m_tp) (m_sz) (m_fr) (m_bh) (m_hd) (m_ft) (m_fa) (m_le) (m_fo) (m_as) (m_fd) (m_bc) (m_bg) (m_bs) (m_be) (m_b0) (m_b1) (m_cm) (m_hc))) := (hP_3.2 (mo) _ h_mo rfl).trans (ho_mo)
      exact hp_iret hx hb hr hlocks hZ ⟨rfl, hP, fx9, ⟨by decide, Or.inr (by decide)⟩⟩ dX13_nameIn_109
    · have c8 : ¬ (mn).toInt ≤ (k).toInt := fun h9 => c8 (hq_lei.mpr h9)
      refine lv_aload_n hx hb dX13_nameIn_10 rfl (lv_at hl 3 rfl) ?_
      refine lv_iload_n hx hb dX13_nameIn_11 rfl (lv_at hl 4 rfl) ?_
      refine lv_iload hx hb dX13_nameIn_12 (lv_at hl 0 rfl) ?_
      refine lv_iadd hx hb dX13_nameIn_14 ?_
      refine lv_topi (fun y10 ey11 => ?_)
      obtain ⟨k12, hk13, b14, b15⟩ := hq_add (bs) (k)
      rw [← ey11] at hk13 b14 b15
      have hk13 : (y10).toInt = (bs).toInt + (k).toInt + k12 * 4294967296 := hk13
      obtain rfl : k12 = 0 := by omega
      have fx16 : V9 (szs) = some (.inl (cs 1, Ns, .inl (g2))) := (hP_3.2 (szs) _ h_szs rfl).trans (eV1)
      refine hp_iald hx hb hZ fx16 (hq_in (by omega) (by omega)) dX13_nameIn_15 ?_
      refine lv_topi (fun y17 ey18 => ?_)
      have b19 : hq_ir (hq_lo 2) (hq_hi 2) y17 := by rw [ey18]; exact hf4 _ (hq_ix (by omega) (by omega))
      have b19 : 0 ≤ (y17).toInt ∧ (y17).toInt ≤ 12 := b19
      refine lv_aload_n hx hb dX13_nameIn_16 rfl (lv_at hl 1 rfl) ?_
      have fx20 : V9 (mo) = some (.inr (13, hm_o q (m_tp) (m_sz) (m_fr) (m_bh) (m_hd) (m_ft) (m_fa) (m_le) (m_fo) (m_as) (m_fd) (m_bc) (m_bg) (m_bs) (m_be) (m_b0) (m_b1) (m_cm) (m_hc))) := (hP_3.2 (mo) _ h_mo rfl).trans (ho_mo)
      refine hp_get (v := .int (m_bh)) hx hb hts hown hZ fx20 fl_X13_76 rfl dX13_nameIn_17 ?_
      refine lv_aload_n hx hb dX13_nameIn_20 rfl (lv_at hl 1 rfl) ?_
      refine hp_get (v := .int (m_fr)) hx hb hts hown hZ fx20 fl_X13_60 rfl dX13_nameIn_21 ?_
      refine lv_isub hx hb dX13_nameIn_24 ?_
      refine lv_topi (fun y21 ey22 => ?_)
      obtain ⟨k23, hk24, b25, b26⟩ := hq_sub (m_bh) (m_fr)
      rw [← ey22] at hk24 b25 b26
      have hk24 : (y21).toInt = (m_bh).toInt - (m_fr).toInt + k23 * 4294967296 := hk24
      obtain rfl : k23 = 0 := by omega
      refine lv_icmp_ne (tgt := 32) hx hb dX13_nameIn_25 (by decide) (fun c27 => ?_) (fun c27 => ?_)
      · have c27 : ¬ (y17).toInt = (y21).toInt := fun h9 => c27 (hq_eqi.mpr h9)
        refine lv_iconst (v := 0) hx hb dX13_nameIn_32 (by decide) ?_
        refine lv_istore (lv' := [(6, .int (0)), (5, .int (k)), (0, .ref (mo)), (1, .ref (nm)), (2, .ref (szs)), (3, .int (bs)), (4, .int (mn))]) hx hb dX13_nameIn_33 hl (by decide) rfl (fun ls hl => ?_)
        refine lv_iconst (v := 0) hx hb dX13_nameIn_35 (by decide) ?_
        refine lv_istore (lv' := [(7, .int (0)), (6, .int (0)), (5, .int (k)), (0, .ref (mo)), (1, .ref (nm)), (2, .ref (szs)), (3, .int (bs)), (4, .int (mn))]) hx hb dX13_nameIn_36 hl (by decide) rfl (fun ls hl => ?_)
        have hl28 : (0 : Int32).toInt = 0 := by decide
        have hl29 : (0 : Int32).toInt = 0 := by decide
        suffices lp38 : ∀ (k9 : Nat) (V9 : hp_V) (H9 : Heap) (locs9 : List Loc) (ls : Array Slot) (sa : Int32) (i : Int32), (200 - i.toInt).toNat = k9 → hp_Z D cs B s V9 H9 n locs9 → hq_P cs G (fun _ => false) V V9 → 0 ≤ i.toInt → i.toInt ≤ 100 → sa.toInt = 0 ∨ (sa.toInt = 1 ∧ (y17).toInt = m_bh.toInt - m_fr.toInt) → lv_has ls 8 [(7, .int (i)), (6, .int (sa)), (5, .int (k)), (0, .ref (mo)), (1, .ref (nm)), (2, .ref (szs)), (3, .int (bs)), (4, .int (mn))] → W p l e ({ frames := 1, cells := 0, slots := 0, locals := 21 }) s m ([.ref (mo), .ref (nm), .ref (szs), .int (bs), .int (mn)] : List Value).toArray below meth c H9 locs9 0 0 (MQ below (hp_QI D cs B (fun r V' n' => n = n' ∧ hq_P cs G (fun _ => false) V V' ∧ (V' mo = some (.inr (13, hm_o q (m_tp) (m_sz) (m_fr) (m_bh) (m_hd) (m_ft) (m_fa) (m_le) (m_fo) (m_as) (m_fd) (m_bc) (m_bg) (m_bs) (m_be) (m_b0) (m_b1) (m_cm) (m_hc)))) ∧ (-1 ≤ r.toInt ∧ (r.toInt < mn.toInt ∨ r.toInt = -1)))) ([.ref (mo), .ref (nm), .ref (szs), .int (bs), .int (mn)] : List Value).toArray s 0 0 (hp_F B)) (F0 m 38 ls []) from lp38 _ _ _ _ ls (0) (0) rfl hZ hP (by omega) (by omega) (by omega) (lv_sub hl [0, 1, 2, 3, 4, 5, 6, 7] rfl)
        intro k9
        induction k9 using Nat.strongRecOn with
        | _ k9 ih38 =>
          intro V9 H9 locs9 ls sa i  hk38 hZ hP  hv30 hv31 hv32 hl
          have hb_sa := hq_rng sa
          have hb_i := hq_rng i
          have hP_38 := hP
          refine lv_iload hx hb dX13_nameIn_38 (lv_at hl 0 rfl) ?_
          refine lv_aload_n hx hb dX13_nameIn_40 rfl (lv_at hl 5 rfl) ?_
          refine lv_iload_n hx hb dX13_nameIn_41 rfl (lv_at hl 6 rfl) ?_
          refine lv_iload hx hb dX13_nameIn_42 (lv_at hl 2 rfl) ?_
          refine lv_iadd hx hb dX13_nameIn_44 ?_
          refine lv_topi (fun y33 ey34 => ?_)
          obtain ⟨k35, hk36, b37, b38⟩ := hq_add (bs) (k)
          rw [← ey34] at hk36 b37 b38
          have hk36 : (y33).toInt = (bs).toInt + (k).toInt + k35 * 4294967296 := hk36
          obtain rfl : k35 = 0 := by omega
          have fx39 : V9 (szs) = some (.inl (cs 1, Ns, .inl (g2))) := (hP_38.2 (szs) _ h_szs rfl).trans (eV1)
          refine hp_iald hx hb hZ fx39 (hq_in (by omega) (by omega)) dX13_nameIn_45 ?_
          refine lv_topi (fun y40 ey41 => ?_)
          have b42 : hq_ir (hq_lo 2) (hq_hi 2) y40 := by rw [ey41]; exact hf4 _ (hq_ix (by omega) (by omega))
          have b42 : 0 ≤ (y40).toInt ∧ (y40).toInt ≤ 12 := b42
          have hi9 : y33 = y10 := Int32.toInt_inj.mp (by omega)
          have b43 : (y40).toInt = (y17).toInt := by rw [ey41, ey18, hi9]
          refine lv_icmp_ge (tgt := 94) hx hb dX13_nameIn_46 (by decide) (fun c44 => ?_) (fun c44 => ?_)
          · have c44 : (y40).toInt ≤ (i).toInt := hq_lei.mp c44
            refine lv_iload hx hb dX13_nameIn_94 (lv_at hl 1 rfl) ?_
            refine lv_if_eq (tgt := 102) hx hb dX13_nameIn_96 (by decide) (fun c45 => ?_) (fun c45 => ?_)
            · have c45 : (sa).toInt = (0 : Int) := hq_eqi.mp c45
              obtain ⟨y46, ey47⟩ : ∃ y : Int32, y = k + (1) := ⟨_, rfl⟩
              obtain ⟨k48, hk49, b50, b51⟩ := hq_add (k) (1)
              rw [← ey47] at hk49 b50 b51
              have hk49 : (y46).toInt = (k).toInt + (1) + k48 * 4294967296 := hk49
              refine lv_iinc (v := y46) (lv' := [(5, .int (y46)), (7, .int (i)), (6, .int (sa)), (0, .ref (mo)), (1, .ref (nm)), (2, .ref (szs)), (3, .int (bs)), (4, .int (mn))]) hx hb dX13_nameIn_102 hl (k := 2) rfl (by rw [ey47]; rfl) (by decide) rfl (fun ls hl => ?_)
              refine lv_goto (tgt := 3) hx hb dX13_nameIn_105 (by decide) ?_
              exact ih3 _ (by omega) _ _ _ ls (y46) rfl hZ hP (by omega) (by omega) (lv_sub hl [0, 3, 4, 5, 6, 7] rfl)
            · have c45 : ¬ (sa).toInt = (0 : Int) := fun h9 => c45 (hq_eqi.mpr h9)
              refine lv_iload hx hb dX13_nameIn_99 (lv_at hl 2 rfl) ?_
              have fx52 : V9 (mo) = some (.inr (13, hm_o q (m_tp) (m_sz) (m_fr) (m_bh) (m_hd) (m_ft) (m_fa) (m_le) (m_fo) (m_as) (m_fd) (m_bc) (m_bg) (m_bs) (m_be) (m_b0) (m_b1) (m_cm) (m_hc))) := (hP_38.2 (mo) _ h_mo rfl).trans (ho_mo)
              exact hp_iret hx hb hr hlocks hZ ⟨rfl, hP, fx52, ⟨by omega, Or.inl (by omega)⟩⟩ dX13_nameIn_101
          · have c44 : ¬ (y40).toInt ≤ (i).toInt := fun h9 => c44 (hq_lei.mpr h9)
            refine lv_iload hx hb dX13_nameIn_49 (lv_at hl 1 rfl) ?_
            refine lv_if_eq (tgt := 94) hx hb dX13_nameIn_51 (by decide) (fun c53 => ?_) (fun c53 => ?_)
            · have c53 : (sa).toInt = (0 : Int) := hq_eqi.mp c53
              refine lv_iload hx hb dX13_nameIn_94 (lv_at hl 1 rfl) ?_
              refine lv_if_eq (tgt := 102) hx hb dX13_nameIn_96 (by decide) (fun c54 => ?_) (fun c54 => ?_)
              · have c54 : (sa).toInt = (0 : Int) := hq_eqi.mp c54
                obtain ⟨y55, ey56⟩ : ∃ y : Int32, y = k + (1) := ⟨_, rfl⟩
                obtain ⟨k57, hk58, b59, b60⟩ := hq_add (k) (1)
                rw [← ey56] at hk58 b59 b60
                have hk58 : (y55).toInt = (k).toInt + (1) + k57 * 4294967296 := hk58
                refine lv_iinc (v := y55) (lv' := [(5, .int (y55)), (7, .int (i)), (6, .int (sa)), (0, .ref (mo)), (1, .ref (nm)), (2, .ref (szs)), (3, .int (bs)), (4, .int (mn))]) hx hb dX13_nameIn_102 hl (k := 2) rfl (by rw [ey56]; rfl) (by decide) rfl (fun ls hl => ?_)
                refine lv_goto (tgt := 3) hx hb dX13_nameIn_105 (by decide) ?_
                exact ih3 _ (by omega) _ _ _ ls (y55) rfl hZ hP (by omega) (by omega) (lv_sub hl [0, 3, 4, 5, 6, 7] rfl)
              · have c54 : ¬ (sa).toInt = (0 : Int) := fun h9 => c54 (hq_eqi.mpr h9)
                refine lv_iload hx hb dX13_nameIn_99 (lv_at hl 2 rfl) ?_
                have fx61 : V9 (mo) = some (.inr (13, hm_o q (m_tp) (m_sz) (m_fr) (m_bh) (m_hd) (m_ft) (m_fa) (m_le) (m_fo) (m_as) (m_fd) (m_bc) (m_bg) (m_bs) (m_be) (m_b0) (m_b1) (m_cm) (m_hc))) := (hP_38.2 (mo) _ h_mo rfl).trans (ho_mo)
                exact hp_iret hx hb hr hlocks hZ ⟨rfl, hP, fx61, ⟨by omega, Or.inl (by omega)⟩⟩ dX13_nameIn_101
            · have c53 : ¬ (sa).toInt = (0 : Int) := fun h9 => c53 (hq_eqi.mpr h9)
              refine lv_aload_n hx hb dX13_nameIn_54 rfl (lv_at hl 4 rfl) ?_
              refine lv_bipush (v := 12) hx hb dX13_nameIn_55 (by decide) ?_
              refine lv_iload_n hx hb dX13_nameIn_57 rfl (lv_at hl 6 rfl) ?_
              refine lv_iload hx hb dX13_nameIn_58 (lv_at hl 2 rfl) ?_
              refine lv_iadd hx hb dX13_nameIn_60 ?_
              refine lv_topi (fun y62 ey63 => ?_)
              obtain ⟨k64, hk65, b66, b67⟩ := hq_add (bs) (k)
              rw [← ey63] at hk65 b66 b67
              have hk65 : (y62).toInt = (bs).toInt + (k).toInt + k64 * 4294967296 := hk65
              obtain rfl : k64 = 0 := by omega
              refine lv_imul hx hb dX13_nameIn_61 ?_
              refine lv_topi (fun y68 ey69 => ?_)
              obtain ⟨k70, hk71, b72, b73⟩ := hq_mul (12) (y62)
              rw [← ey69] at hk71 b72 b73
              have hk71 : (y68).toInt = (12 : Int) * (y62).toInt + k70 * 4294967296 := hk71
              obtain rfl : k70 = 0 := by omega
              refine lv_iload hx hb dX13_nameIn_62 (lv_at hl 0 rfl) ?_
              refine lv_iadd hx hb dX13_nameIn_64 ?_
              refine lv_topi (fun y74 ey75 => ?_)
              obtain ⟨k76, hk77, b78, b79⟩ := hq_add (y68) (i)
              rw [← ey75] at hk77 b78 b79
              have hk77 : (y74).toInt = (y68).toInt + (i).toInt + k76 * 4294967296 := hk77
              obtain rfl : k76 = 0 := by omega
              obtain ⟨hN82, g81, eV80⟩ := hq_o20 hP.1 h_nm
              refine hp_bald hx hb hZ eV80 (hq_in (by omega) (by omega)) dX13_nameIn_65 ?_
              refine lv_topi (fun y84 ey85 => ?_)
              have b86 := hq_rng y84
              refine lv_aload_n hx hb dX13_nameIn_66 rfl (lv_at hl 3 rfl) ?_
              have fx87 : V9 (mo) = some (.inr (13, hm_o q (m_tp) (m_sz) (m_fr) (m_bh) (m_hd) (m_ft) (m_fa) (m_le) (m_fo) (m_as) (m_fd) (m_bc) (m_bg) (m_bs) (m_be) (m_b0) (m_b1) (m_cm) (m_hc))) := (hP_38.2 (mo) _ h_mo rfl).trans (ho_mo)
              refine hp_get (v := .ref (q + 20)) hx hb hts hown hZ fx87 fl_X13_73 rfl dX13_nameIn_67 ?_
              refine lv_aload_n hx hb dX13_nameIn_70 rfl (lv_at hl 3 rfl) ?_
              refine hp_get (v := .int (m_fr)) hx hb hts hown hZ fx87 fl_X13_60 rfl dX13_nameIn_71 ?_
              refine lv_iload hx hb dX13_nameIn_74 (lv_at hl 0 rfl) ?_
              refine lv_iadd hx hb dX13_nameIn_76 ?_
              refine lv_topi (fun y88 ey89 => ?_)
              obtain ⟨k90, hk91, b92, b93⟩ := hq_add (m_fr) (i)
              rw [← ey89] at hk91 b92 b93
              have hk91 : (y88).toInt = (m_fr).toInt + (i).toInt + k90 * 4294967296 := hk91
              obtain rfl : k90 = 0 := by omega
              obtain ⟨hN96, g95, eV94⟩ := hq_o20 hP.1 (hr_20 hR)
              refine hp_bald hx hb hZ eV94 (hq_in (by omega) (by omega)) dX13_nameIn_77 ?_
              refine lv_topi (fun y98 ey99 => ?_)
              have b100 := hq_rng y98
              refine lv_icmp_ne (tgt := 85) hx hb dX13_nameIn_78 (by decide) (fun c101 => ?_) (fun c101 => ?_)
              · have c101 : ¬ (y84).toInt = (y98).toInt := fun h9 => c101 (hq_eqi.mpr h9)
                refine lv_iconst (v := 0) hx hb dX13_nameIn_85 (by decide) ?_
                refine lv_istore (lv' := [(6, .int (0)), (7, .int (i)), (5, .int (k)), (0, .ref (mo)), (1, .ref (nm)), (2, .ref (szs)), (3, .int (bs)), (4, .int (mn))]) hx hb dX13_nameIn_86 hl (by decide) rfl (fun ls hl => ?_)
                obtain ⟨y102, ey103⟩ : ∃ y : Int32, y = i + (1) := ⟨_, rfl⟩
                obtain ⟨k104, hk105, b106, b107⟩ := hq_add (i) (1)
                rw [← ey103] at hk105 b106 b107
                have hk105 : (y102).toInt = (i).toInt + (1) + k104 * 4294967296 := hk105
                refine lv_iinc (v := y102) (lv' := [(7, .int (y102)), (6, .int (0)), (5, .int (k)), (0, .ref (mo)), (1, .ref (nm)), (2, .ref (szs)), (3, .int (bs)), (4, .int (mn))]) hx hb dX13_nameIn_88 hl (k := 1) rfl (by rw [ey103]; rfl) (by decide) rfl (fun ls hl => ?_)
                refine lv_goto (tgt := 38) hx hb dX13_nameIn_91 (by decide) ?_
                exact ih38 _ (by omega) _ _ _ ls (0) (y102) rfl hZ hP (by omega) (by omega) (by omega) (lv_sub hl [0, 1, 2, 3, 4, 5, 6, 7] rfl)
              · have c101 : (y84).toInt = (y98).toInt := hq_eqi.mp c101
                refine lv_iconst (v := 1) hx hb dX13_nameIn_81 (by decide) ?_
                refine lv_goto (tgt := 86) hx hb dX13_nameIn_82 (by decide) ?_
                refine lv_istore (lv' := [(6, .int (1)), (7, .int (i)), (5, .int (k)), (0, .ref (mo)), (1, .ref (nm)), (2, .ref (szs)), (3, .int (bs)), (4, .int (mn))]) hx hb dX13_nameIn_86 hl (by decide) rfl (fun ls hl => ?_)
                obtain ⟨y108, ey109⟩ : ∃ y : Int32, y = i + (1) := ⟨_, rfl⟩
                obtain ⟨k110, hk111, b112, b113⟩ := hq_add (i) (1)
                rw [← ey109] at hk111 b112 b113
                have hk111 : (y108).toInt = (i).toInt + (1) + k110 * 4294967296 := hk111
                refine lv_iinc (v := y108) (lv' := [(7, .int (y108)), (6, .int (1)), (5, .int (k)), (0, .ref (mo)), (1, .ref (nm)), (2, .ref (szs)), (3, .int (bs)), (4, .int (mn))]) hx hb dX13_nameIn_88 hl (k := 1) rfl (by rw [ey109]; rfl) (by decide) rfl (fun ls hl => ?_)
                refine lv_goto (tgt := 38) hx hb dX13_nameIn_91 (by decide) ?_
                exact ih38 _ (by omega) _ _ _ ls (1) (y108) rfl hZ hP (by omega) (by omega) (by omega) (lv_sub hl [0, 1, 2, 3, 4, 5, 6, 7] rfl)
      · have c27 : (y17).toInt = (y21).toInt := hq_eqi.mp c27
        refine lv_iconst (v := 1) hx hb dX13_nameIn_28 (by decide) ?_
        refine lv_goto (tgt := 33) hx hb dX13_nameIn_29 (by decide) ?_
        refine lv_istore (lv' := [(6, .int (1)), (5, .int (k)), (0, .ref (mo)), (1, .ref (nm)), (2, .ref (szs)), (3, .int (bs)), (4, .int (mn))]) hx hb dX13_nameIn_33 hl (by decide) rfl (fun ls hl => ?_)
        refine lv_iconst (v := 0) hx hb dX13_nameIn_35 (by decide) ?_
        refine lv_istore (lv' := [(7, .int (0)), (6, .int (1)), (5, .int (k)), (0, .ref (mo)), (1, .ref (nm)), (2, .ref (szs)), (3, .int (bs)), (4, .int (mn))]) hx hb dX13_nameIn_36 hl (by decide) rfl (fun ls hl => ?_)
        have hl114 : (1 : Int32).toInt = 1 := by decide
        have hl115 : (0 : Int32).toInt = 0 := by decide
        suffices lp38 : ∀ (k9 : Nat) (V9 : hp_V) (H9 : Heap) (locs9 : List Loc) (ls : Array Slot) (sa : Int32) (i : Int32), (200 - i.toInt).toNat = k9 → hp_Z D cs B s V9 H9 n locs9 → hq_P cs G (fun _ => false) V V9 → 0 ≤ i.toInt → i.toInt ≤ 100 → sa.toInt = 0 ∨ (sa.toInt = 1 ∧ (y17).toInt = m_bh.toInt - m_fr.toInt) → lv_has ls 8 [(7, .int (i)), (6, .int (sa)), (5, .int (k)), (0, .ref (mo)), (1, .ref (nm)), (2, .ref (szs)), (3, .int (bs)), (4, .int (mn))] → W p l e ({ frames := 1, cells := 0, slots := 0, locals := 21 }) s m ([.ref (mo), .ref (nm), .ref (szs), .int (bs), .int (mn)] : List Value).toArray below meth c H9 locs9 0 0 (MQ below (hp_QI D cs B (fun r V' n' => n = n' ∧ hq_P cs G (fun _ => false) V V' ∧ (V' mo = some (.inr (13, hm_o q (m_tp) (m_sz) (m_fr) (m_bh) (m_hd) (m_ft) (m_fa) (m_le) (m_fo) (m_as) (m_fd) (m_bc) (m_bg) (m_bs) (m_be) (m_b0) (m_b1) (m_cm) (m_hc)))) ∧ (-1 ≤ r.toInt ∧ (r.toInt < mn.toInt ∨ r.toInt = -1)))) ([.ref (mo), .ref (nm), .ref (szs), .int (bs), .int (mn)] : List Value).toArray s 0 0 (hp_F B)) (F0 m 38 ls []) from lp38 _ _ _ _ ls (1) (0) rfl hZ hP (by omega) (by omega) (by omega) (lv_sub hl [0, 1, 2, 3, 4, 5, 6, 7] rfl)
        intro k9
        induction k9 using Nat.strongRecOn with
        | _ k9 ih38 =>
          intro V9 H9 locs9 ls sa i  hk38 hZ hP  hv116 hv117 hv118 hl
          have hb_sa := hq_rng sa
          have hb_i := hq_rng i
          have hP_38 := hP
          refine lv_iload hx hb dX13_nameIn_38 (lv_at hl 0 rfl) ?_
          refine lv_aload_n hx hb dX13_nameIn_40 rfl (lv_at hl 5 rfl) ?_
          refine lv_iload_n hx hb dX13_nameIn_41 rfl (lv_at hl 6 rfl) ?_
          refine lv_iload hx hb dX13_nameIn_42 (lv_at hl 2 rfl) ?_
          refine lv_iadd hx hb dX13_nameIn_44 ?_
          refine lv_topi (fun y119 ey120 => ?_)
          obtain ⟨k121, hk122, b123, b124⟩ := hq_add (bs) (k)
          rw [← ey120] at hk122 b123 b124
          have hk122 : (y119).toInt = (bs).toInt + (k).toInt + k121 * 4294967296 := hk122
          obtain rfl : k121 = 0 := by omega
          have fx125 : V9 (szs) = some (.inl (cs 1, Ns, .inl (g2))) := (hP_38.2 (szs) _ h_szs rfl).trans (eV1)
          refine hp_iald hx hb hZ fx125 (hq_in (by omega) (by omega)) dX13_nameIn_45 ?_
          refine lv_topi (fun y126 ey127 => ?_)
          have b128 : hq_ir (hq_lo 2) (hq_hi 2) y126 := by rw [ey127]; exact hf4 _ (hq_ix (by omega) (by omega))
          have b128 : 0 ≤ (y126).toInt ∧ (y126).toInt ≤ 12 := b128
          have hi9 : y119 = y10 := Int32.toInt_inj.mp (by omega)
          have b129 : (y126).toInt = (y17).toInt := by rw [ey127, ey18, hi9]
          refine lv_icmp_ge (tgt := 94) hx hb dX13_nameIn_46 (by decide) (fun c130 => ?_) (fun c130 => ?_)
          · have c130 : (y126).toInt ≤ (i).toInt := hq_lei.mp c130
            refine lv_iload hx hb dX13_nameIn_94 (lv_at hl 1 rfl) ?_
            refine lv_if_eq (tgt := 102) hx hb dX13_nameIn_96 (by decide) (fun c131 => ?_) (fun c131 => ?_)
            · have c131 : (sa).toInt = (0 : Int) := hq_eqi.mp c131
              obtain ⟨y132, ey133⟩ : ∃ y : Int32, y = k + (1) := ⟨_, rfl⟩
              obtain ⟨k134, hk135, b136, b137⟩ := hq_add (k) (1)
              rw [← ey133] at hk135 b136 b137
              have hk135 : (y132).toInt = (k).toInt + (1) + k134 * 4294967296 := hk135
              refine lv_iinc (v := y132) (lv' := [(5, .int (y132)), (7, .int (i)), (6, .int (sa)), (0, .ref (mo)), (1, .ref (nm)), (2, .ref (szs)), (3, .int (bs)), (4, .int (mn))]) hx hb dX13_nameIn_102 hl (k := 2) rfl (by rw [ey133]; rfl) (by decide) rfl (fun ls hl => ?_)
              refine lv_goto (tgt := 3) hx hb dX13_nameIn_105 (by decide) ?_
              exact ih3 _ (by omega) _ _ _ ls (y132) rfl hZ hP (by omega) (by omega) (lv_sub hl [0, 3, 4, 5, 6, 7] rfl)
            · have c131 : ¬ (sa).toInt = (0 : Int) := fun h9 => c131 (hq_eqi.mpr h9)
              refine lv_iload hx hb dX13_nameIn_99 (lv_at hl 2 rfl) ?_
              have fx138 : V9 (mo) = some (.inr (13, hm_o q (m_tp) (m_sz) (m_fr) (m_bh) (m_hd) (m_ft) (m_fa) (m_le) (m_fo) (m_as) (m_fd) (m_bc) (m_bg) (m_bs) (m_be) (m_b0) (m_b1) (m_cm) (m_hc))) := (hP_38.2 (mo) _ h_mo rfl).trans (ho_mo)
              exact hp_iret hx hb hr hlocks hZ ⟨rfl, hP, fx138, ⟨by omega, Or.inl (by omega)⟩⟩ dX13_nameIn_101
          · have c130 : ¬ (y126).toInt ≤ (i).toInt := fun h9 => c130 (hq_lei.mpr h9)
            refine lv_iload hx hb dX13_nameIn_49 (lv_at hl 1 rfl) ?_
            refine lv_if_eq (tgt := 94) hx hb dX13_nameIn_51 (by decide) (fun c139 => ?_) (fun c139 => ?_)
            · have c139 : (sa).toInt = (0 : Int) := hq_eqi.mp c139
              refine lv_iload hx hb dX13_nameIn_94 (lv_at hl 1 rfl) ?_
              refine lv_if_eq (tgt := 102) hx hb dX13_nameIn_96 (by decide) (fun c140 => ?_) (fun c140 => ?_)
              · have c140 : (sa).toInt = (0 : Int) := hq_eqi.mp c140
                obtain ⟨y141, ey142⟩ : ∃ y : Int32, y = k + (1) := ⟨_, rfl⟩
                obtain ⟨k143, hk144, b145, b146⟩ := hq_add (k) (1)
                rw [← ey142] at hk144 b145 b146
                have hk144 : (y141).toInt = (k).toInt + (1) + k143 * 4294967296 := hk144
                refine lv_iinc (v := y141) (lv' := [(5, .int (y141)), (7, .int (i)), (6, .int (sa)), (0, .ref (mo)), (1, .ref (nm)), (2, .ref (szs)), (3, .int (bs)), (4, .int (mn))]) hx hb dX13_nameIn_102 hl (k := 2) rfl (by rw [ey142]; rfl) (by decide) rfl (fun ls hl => ?_)
                refine lv_goto (tgt := 3) hx hb dX13_nameIn_105 (by decide) ?_
                exact ih3 _ (by omega) _ _ _ ls (y141) rfl hZ hP (by omega) (by omega) (lv_sub hl [0, 3, 4, 5, 6, 7] rfl)
              · have c140 : ¬ (sa).toInt = (0 : Int) := fun h9 => c140 (hq_eqi.mpr h9)
                refine lv_iload hx hb dX13_nameIn_99 (lv_at hl 2 rfl) ?_
                have fx147 : V9 (mo) = some (.inr (13, hm_o q (m_tp) (m_sz) (m_fr) (m_bh) (m_hd) (m_ft) (m_fa) (m_le) (m_fo) (m_as) (m_fd) (m_bc) (m_bg) (m_bs) (m_be) (m_b0) (m_b1) (m_cm) (m_hc))) := (hP_38.2 (mo) _ h_mo rfl).trans (ho_mo)
                exact hp_iret hx hb hr hlocks hZ ⟨rfl, hP, fx147, ⟨by omega, Or.inl (by omega)⟩⟩ dX13_nameIn_101
            · have c139 : ¬ (sa).toInt = (0 : Int) := fun h9 => c139 (hq_eqi.mpr h9)
              refine lv_aload_n hx hb dX13_nameIn_54 rfl (lv_at hl 4 rfl) ?_
              refine lv_bipush (v := 12) hx hb dX13_nameIn_55 (by decide) ?_
              refine lv_iload_n hx hb dX13_nameIn_57 rfl (lv_at hl 6 rfl) ?_
              refine lv_iload hx hb dX13_nameIn_58 (lv_at hl 2 rfl) ?_
              refine lv_iadd hx hb dX13_nameIn_60 ?_
              refine lv_topi (fun y148 ey149 => ?_)
              obtain ⟨k150, hk151, b152, b153⟩ := hq_add (bs) (k)
              rw [← ey149] at hk151 b152 b153
              have hk151 : (y148).toInt = (bs).toInt + (k).toInt + k150 * 4294967296 := hk151
              obtain rfl : k150 = 0 := by omega
              refine lv_imul hx hb dX13_nameIn_61 ?_
              refine lv_topi (fun y154 ey155 => ?_)
              obtain ⟨k156, hk157, b158, b159⟩ := hq_mul (12) (y148)
              rw [← ey155] at hk157 b158 b159
              have hk157 : (y154).toInt = (12 : Int) * (y148).toInt + k156 * 4294967296 := hk157
              obtain rfl : k156 = 0 := by omega
              refine lv_iload hx hb dX13_nameIn_62 (lv_at hl 0 rfl) ?_
              refine lv_iadd hx hb dX13_nameIn_64 ?_
              refine lv_topi (fun y160 ey161 => ?_)
              obtain ⟨k162, hk163, b164, b165⟩ := hq_add (y154) (i)
              rw [← ey161] at hk163 b164 b165
              have hk163 : (y160).toInt = (y154).toInt + (i).toInt + k162 * 4294967296 := hk163
              obtain rfl : k162 = 0 := by omega
              obtain ⟨hN168, g167, eV166⟩ := hq_o20 hP.1 h_nm
              refine hp_bald hx hb hZ eV166 (hq_in (by omega) (by omega)) dX13_nameIn_65 ?_
              refine lv_topi (fun y170 ey171 => ?_)
              have b172 := hq_rng y170
              refine lv_aload_n hx hb dX13_nameIn_66 rfl (lv_at hl 3 rfl) ?_
              have fx173 : V9 (mo) = some (.inr (13, hm_o q (m_tp) (m_sz) (m_fr) (m_bh) (m_hd) (m_ft) (m_fa) (m_le) (m_fo) (m_as) (m_fd) (m_bc) (m_bg) (m_bs) (m_be) (m_b0) (m_b1) (m_cm) (m_hc))) := (hP_38.2 (mo) _ h_mo rfl).trans (ho_mo)
              refine hp_get (v := .ref (q + 20)) hx hb hts hown hZ fx173 fl_X13_73 rfl dX13_nameIn_67 ?_
              refine lv_aload_n hx hb dX13_nameIn_70 rfl (lv_at hl 3 rfl) ?_
              refine hp_get (v := .int (m_fr)) hx hb hts hown hZ fx173 fl_X13_60 rfl dX13_nameIn_71 ?_
              refine lv_iload hx hb dX13_nameIn_74 (lv_at hl 0 rfl) ?_
              refine lv_iadd hx hb dX13_nameIn_76 ?_
              refine lv_topi (fun y174 ey175 => ?_)
              obtain ⟨k176, hk177, b178, b179⟩ := hq_add (m_fr) (i)
              rw [← ey175] at hk177 b178 b179
              have hk177 : (y174).toInt = (m_fr).toInt + (i).toInt + k176 * 4294967296 := hk177
              obtain rfl : k176 = 0 := by omega
              obtain ⟨hN182, g181, eV180⟩ := hq_o20 hP.1 (hr_20 hR)
              refine hp_bald hx hb hZ eV180 (hq_in (by omega) (by omega)) dX13_nameIn_77 ?_
              refine lv_topi (fun y184 ey185 => ?_)
              have b186 := hq_rng y184
              refine lv_icmp_ne (tgt := 85) hx hb dX13_nameIn_78 (by decide) (fun c187 => ?_) (fun c187 => ?_)
              · have c187 : ¬ (y170).toInt = (y184).toInt := fun h9 => c187 (hq_eqi.mpr h9)
                refine lv_iconst (v := 0) hx hb dX13_nameIn_85 (by decide) ?_
                refine lv_istore (lv' := [(6, .int (0)), (7, .int (i)), (5, .int (k)), (0, .ref (mo)), (1, .ref (nm)), (2, .ref (szs)), (3, .int (bs)), (4, .int (mn))]) hx hb dX13_nameIn_86 hl (by decide) rfl (fun ls hl => ?_)
                obtain ⟨y188, ey189⟩ : ∃ y : Int32, y = i + (1) := ⟨_, rfl⟩
                obtain ⟨k190, hk191, b192, b193⟩ := hq_add (i) (1)
                rw [← ey189] at hk191 b192 b193
                have hk191 : (y188).toInt = (i).toInt + (1) + k190 * 4294967296 := hk191
                refine lv_iinc (v := y188) (lv' := [(7, .int (y188)), (6, .int (0)), (5, .int (k)), (0, .ref (mo)), (1, .ref (nm)), (2, .ref (szs)), (3, .int (bs)), (4, .int (mn))]) hx hb dX13_nameIn_88 hl (k := 1) rfl (by rw [ey189]; rfl) (by decide) rfl (fun ls hl => ?_)
                refine lv_goto (tgt := 38) hx hb dX13_nameIn_91 (by decide) ?_
                exact ih38 _ (by omega) _ _ _ ls (0) (y188) rfl hZ hP (by omega) (by omega) (by omega) (lv_sub hl [0, 1, 2, 3, 4, 5, 6, 7] rfl)
              · have c187 : (y170).toInt = (y184).toInt := hq_eqi.mp c187
                refine lv_iconst (v := 1) hx hb dX13_nameIn_81 (by decide) ?_
                refine lv_goto (tgt := 86) hx hb dX13_nameIn_82 (by decide) ?_
                refine lv_istore (lv' := [(6, .int (1)), (7, .int (i)), (5, .int (k)), (0, .ref (mo)), (1, .ref (nm)), (2, .ref (szs)), (3, .int (bs)), (4, .int (mn))]) hx hb dX13_nameIn_86 hl (by decide) rfl (fun ls hl => ?_)
                obtain ⟨y194, ey195⟩ : ∃ y : Int32, y = i + (1) := ⟨_, rfl⟩
                obtain ⟨k196, hk197, b198, b199⟩ := hq_add (i) (1)
                rw [← ey195] at hk197 b198 b199
                have hk197 : (y194).toInt = (i).toInt + (1) + k196 * 4294967296 := hk197
                refine lv_iinc (v := y194) (lv' := [(7, .int (y194)), (6, .int (1)), (5, .int (k)), (0, .ref (mo)), (1, .ref (nm)), (2, .ref (szs)), (3, .int (bs)), (4, .int (mn))]) hx hb dX13_nameIn_88 hl (k := 1) rfl (by rw [ey195]; rfl) (by decide) rfl (fun ls hl => ?_)
                refine lv_goto (tgt := 38) hx hb dX13_nameIn_91 (by decide) ?_
                exact ih38 _ (by omega) _ _ _ ls (1) (y194) rfl hZ hP (by omega) (by omega) (by omega) (lv_sub hl [0, 1, 2, 3, 4, 5, 6, 7] rfl)

set_option maxHeartbeats 4000000 in
set_option maxRecDepth 100000 in
theorem t_X13_classAtHand (l : Launch) (D : va_G) (cs : Nat → ClassId) (B : Nat) (G : hq_G) (V : hp_V) (n : Nat) (hI : hq_I cs G V) (q : Nat) (hR : hq_RT G q) (mo : Nat) (h_mo : G mo = some (24, 0, 0, 0)) {m_tp m_sz m_fr m_bh m_hd m_ft m_fa m_le m_fo m_as m_fd m_bc m_bg m_bs m_be m_b0 m_b1 m_cm m_hc : Int32} (ho_mo : V mo = some (.inr (13, hm_o q (m_tp) (m_sz) (m_fr) (m_bh) (m_hd) (m_ft) (m_fa) (m_le) (m_fo) (m_as) (m_fd) (m_bc) (m_bg) (m_bs) (m_be) (m_b0) (m_b1) (m_cm) (m_hc)))) (hi_mo0 : 0 ≤ m_tp.toInt ∧ m_tp.toInt ≤ 4000) (hi_mo1 : 0 ≤ m_sz.toInt ∧ m_sz.toInt ≤ 4000) (hi_mo2 : 0 ≤ m_le.toInt ∧ m_le.toInt ≤ 276) (hi_mo3 : 0 ≤ m_fo.toInt ∧ m_fo.toInt ≤ 4) (hi_mo4 : 0 ≤ m_as.toInt ∧ m_as.toInt ≤ 4000) (hi_mo5 : 0 ≤ m_fd.toInt ∧ m_fd.toInt ≤ 900) (hi_mo6 : 0 ≤ m_cm.toInt ∧ m_cm.toInt ≤ 2) (hi_mo7 : 0 ≤ m_hc.toInt ∧ m_hc.toInt ≤ 1) (hi_mo8 : hm_SC m_sz m_fr m_bh m_hd) (hh : m_hd.toInt = 1) : hp_M l yX13_classAtHand cX13_classAtHand 1 (some .int) ({ frames := 2, cells := 0, slots := 0, locals := 48 }) D cs B V n [.ref (mo)] (hp_QI D cs B (fun r V' n' => n = n' ∧ hq_P cs G (fun _ => false) V V' ∧ (V' mo = some (.inr (13, hm_o q (m_tp) (m_sz) (m_fr) (m_bh) (m_hd) (m_ft) (m_fa) (m_le) (m_fo) (m_as) (m_fd) (m_bc) (m_bg) (m_bs) (m_be) (m_b0) (m_b1) (m_cm) (m_hc)))) ∧ (-1 ≤ r.toInt ∧ r.toInt < 6))) 0 0 := by
  refine hp_walk (R0 := RX13) (by decide) rfl ?_ (Nat.le_of_ble_eq_true rfl)
  intro p e s m below meth c ls hx hb hr hts hown hlocks hin hml hZ hl
  have hP : hq_P cs G (fun _ => false) V V := hq_P.rf hI
  have hl : lv_has ls 1 [(0, .ref (mo))] := hl
  have hb_m_tp := hq_rng m_tp
  have hb_m_sz := hq_rng m_sz
  have hb_m_fr := hq_rng m_fr
  have hb_m_bh := hq_rng m_bh
  have hb_m_hd := hq_rng m_hd
  have hb_m_ft := hq_rng m_ft
  have hb_m_fa := hq_rng m_fa
  have hb_m_le := hq_rng m_le
  have hb_m_fo := hq_rng m_fo
  have hb_m_as := hq_rng m_as
  have hb_m_fd := hq_rng m_fd
  have hb_m_bc := hq_rng m_bc
  have hb_m_bg := hq_rng m_bg
  have hb_m_bs := hq_rng m_bs
  have hb_m_be := hq_rng m_be
  have hb_m_b0 := hq_rng m_b0
  have hb_m_b1 := hq_rng m_b1
  have hb_m_cm := hq_rng m_cm
  have hb_m_hc := hq_rng m_hc
  refine lv_aload_n hx hb dX13_classAtHand_0 rfl (lv_at hl 0 rfl) ?_
  refine lv_aload_n hx hb dX13_classAtHand_1 rfl (lv_at hl 0 rfl) ?_
  refine hp_get (v := .ref (q + 3)) hx hb hts hown hZ ho_mo fl_X13_150 rfl dX13_classAtHand_2 ?_
  refine lv_aload_n hx hb dX13_classAtHand_5 rfl (lv_at hl 0 rfl) ?_
  refine hp_get (v := .ref (q + 7)) hx hb hts hown hZ ho_mo fl_X13_153 rfl dX13_classAtHand_6 ?_
  refine lv_bipush (v := 6) hx hb dX13_classAtHand_9 (by decide) ?_
  refine lv_aload_n hx hb dX13_classAtHand_11 rfl (lv_at hl 0 rfl) ?_
  refine hp_get (v := .ref (q)) hx hb hts hown hZ ho_mo fl_X13_1 rfl dX13_classAtHand_12 ?_
  refine lv_iconst (v := 1) hx hb dX13_classAtHand_15 (by decide) ?_
  obtain ⟨hN3, g2, eV1, hf4⟩ := hq_o21 hP.1 (hr_0 hR)
  refine hp_iald hx hb hZ eV1 (by unfold vp_in; decide) dX13_classAtHand_16 ?_
  refine lv_topi (fun y5 ey6 => ?_)
  have b7 : hq_ir (hq_lo 11) (hq_hi 11) y5 := by rw [ey6]; exact hf4 _ (by decide)
  have b7 : 0 ≤ (y5).toInt ∧ (y5).toInt ≤ 6 := b7
  have hl15 : (6 : Int32).toInt = 6 := by decide
  refine hp_calli (hp_runV (As := [.ref (q + 3), .ref (q + 7), .int (6), .int (y5)]) (rest := []) hx hb hml hown hts (t_X13_nameIn l D cs B G  V n hP.1 q hR _ _ (mo) h_mo (q + 3) (hr_3 hR) (q + 7) (hr_7 hR) (6) (y5) ho_mo  (by omega) (by omega) (by omega) (by omega) (by omega) (by omega) (by omega) (by omega) (by assumption) (by omega) (by omega) (by omega) (by omega) (by decide) (by decide)) hZ ho_mo cv_X13_156 rfl rfl ⟨Nat.le_of_ble_eq_true rfl, Nat.le_of_ble_eq_true rfl⟩ rfl hl.1 rfl (Nat.le_of_ble_eq_true rfl) dX13_classAtHand_17 ⟨(Nat.le_of_ble_eq_true rfl), (Nat.le_of_ble_eq_true rfl)⟩) hZ (fun r11 V8 n9 _ _ hw10 hZ => ?_)
  obtain ⟨rfl, hq12, ho14, hr13⟩ := hw10
  have hP := hP.trans hq12 (fun _ _ => rfl)
  have b16 := hq_rng r11
  exact hp_iret hx hb hr hlocks hZ ⟨rfl, hP, ho14, (by omega)⟩ dX13_classAtHand_20

set_option maxHeartbeats 4000000 in
set_option maxRecDepth 100000 in
theorem t_X13_verbAtHand (l : Launch) (D : va_G) (cs : Nat → ClassId) (B : Nat) (G : hq_G) (V : hp_V) (n : Nat) (hI : hq_I cs G V) (q : Nat) (hR : hq_RT G q) (mo : Nat) (h_mo : G mo = some (24, 0, 0, 0)) {m_tp m_sz m_fr m_bh m_hd m_ft m_fa m_le m_fo m_as m_fd m_bc m_bg m_bs m_be m_b0 m_b1 m_cm m_hc : Int32} (ho_mo : V mo = some (.inr (13, hm_o q (m_tp) (m_sz) (m_fr) (m_bh) (m_hd) (m_ft) (m_fa) (m_le) (m_fo) (m_as) (m_fd) (m_bc) (m_bg) (m_bs) (m_be) (m_b0) (m_b1) (m_cm) (m_hc)))) (hi_mo0 : 0 ≤ m_tp.toInt ∧ m_tp.toInt ≤ 4000) (hi_mo1 : 0 ≤ m_sz.toInt ∧ m_sz.toInt ≤ 4000) (hi_mo2 : 0 ≤ m_le.toInt ∧ m_le.toInt ≤ 276) (hi_mo3 : 0 ≤ m_fo.toInt ∧ m_fo.toInt ≤ 4) (hi_mo4 : 0 ≤ m_as.toInt ∧ m_as.toInt ≤ 4000) (hi_mo5 : 0 ≤ m_fd.toInt ∧ m_fd.toInt ≤ 900) (hi_mo6 : 0 ≤ m_cm.toInt ∧ m_cm.toInt ≤ 2) (hi_mo7 : 0 ≤ m_hc.toInt ∧ m_hc.toInt ≤ 1) (hi_mo8 : hm_SC m_sz m_fr m_bh m_hd) (hh : m_hd.toInt = 1) : hp_M l yX13_verbAtHand cX13_verbAtHand 1 (some .int) ({ frames := 2, cells := 0, slots := 0, locals := 48 }) D cs B V n [.ref (mo)] (hp_QI D cs B (fun r V' n' => n = n' ∧ hq_P cs G (fun _ => false) V V' ∧ (V' mo = some (.inr (13, hm_o q (m_tp) (m_sz) (m_fr) (m_bh) (m_hd) (m_ft) (m_fa) (m_le) (m_fo) (m_as) (m_fd) (m_bc) (m_bg) (m_bs) (m_be) (m_b0) (m_b1) (m_cm) (m_hc)))) ∧ (-1 ≤ r.toInt ∧ r.toInt < 30))) 0 0 := by
  refine hp_walk (R0 := RX13) (by decide) rfl ?_ (Nat.le_of_ble_eq_true rfl)
  intro p e s m below meth c ls hx hb hr hts hown hlocks hin hml hZ hl
  have hP : hq_P cs G (fun _ => false) V V := hq_P.rf hI
  have hl : lv_has ls 1 [(0, .ref (mo))] := hl
  have hb_m_tp := hq_rng m_tp
  have hb_m_sz := hq_rng m_sz
  have hb_m_fr := hq_rng m_fr
  have hb_m_bh := hq_rng m_bh
  have hb_m_hd := hq_rng m_hd
  have hb_m_ft := hq_rng m_ft
  have hb_m_fa := hq_rng m_fa
  have hb_m_le := hq_rng m_le
  have hb_m_fo := hq_rng m_fo
  have hb_m_as := hq_rng m_as
  have hb_m_fd := hq_rng m_fd
  have hb_m_bc := hq_rng m_bc
  have hb_m_bg := hq_rng m_bg
  have hb_m_bs := hq_rng m_bs
  have hb_m_be := hq_rng m_be
  have hb_m_b0 := hq_rng m_b0
  have hb_m_b1 := hq_rng m_b1
  have hb_m_cm := hq_rng m_cm
  have hb_m_hc := hq_rng m_hc
  refine lv_aload_n hx hb dX13_verbAtHand_0 rfl (lv_at hl 0 rfl) ?_
  refine lv_aload_n hx hb dX13_verbAtHand_1 rfl (lv_at hl 0 rfl) ?_
  refine hp_get (v := .ref (q + 4)) hx hb hts hown hZ ho_mo fl_X13_19 rfl dX13_verbAtHand_2 ?_
  refine lv_aload_n hx hb dX13_verbAtHand_5 rfl (lv_at hl 0 rfl) ?_
  refine hp_get (v := .ref (q + 8)) hx hb hts hown hZ ho_mo fl_X13_13 rfl dX13_verbAtHand_6 ?_
  refine lv_bipush (v := 30) hx hb dX13_verbAtHand_9 (by decide) ?_
  refine lv_aload_n hx hb dX13_verbAtHand_11 rfl (lv_at hl 0 rfl) ?_
  refine hp_get (v := .ref (q + 1)) hx hb hts hown hZ ho_mo fl_X13_7 rfl dX13_verbAtHand_12 ?_
  refine lv_iconst (v := 1) hx hb dX13_verbAtHand_15 (by decide) ?_
  obtain ⟨hN3, g2, eV1, hf4⟩ := hq_o21 hP.1 (hr_1 hR)
  refine hp_iald hx hb hZ eV1 (by unfold vp_in; decide) dX13_verbAtHand_16 ?_
  refine lv_topi (fun y5 ey6 => ?_)
  have b7 : hq_ir (hq_lo 9) (hq_hi 9) y5 := by rw [ey6]; exact hf4 _ (by decide)
  have b7 : 0 ≤ (y5).toInt ∧ (y5).toInt ≤ 30 := b7
  have hl15 : (30 : Int32).toInt = 30 := by decide
  refine hp_calli (hp_runV (As := [.ref (q + 4), .ref (q + 8), .int (30), .int (y5)]) (rest := []) hx hb hml hown hts (t_X13_nameIn l D cs B G  V n hP.1 q hR _ _ (mo) h_mo (q + 4) (hr_4 hR) (q + 8) (hr_8 hR) (30) (y5) ho_mo  (by omega) (by omega) (by omega) (by omega) (by omega) (by omega) (by omega) (by omega) (by assumption) (by omega) (by omega) (by omega) (by omega) (by decide) (by decide)) hZ ho_mo cv_X13_156 rfl rfl ⟨Nat.le_of_ble_eq_true rfl, Nat.le_of_ble_eq_true rfl⟩ rfl hl.1 rfl (Nat.le_of_ble_eq_true rfl) dX13_verbAtHand_17 ⟨(Nat.le_of_ble_eq_true rfl), (Nat.le_of_ble_eq_true rfl)⟩) hZ (fun r11 V8 n9 _ _ hw10 hZ => ?_)
  obtain ⟨rfl, hq12, ho14, hr13⟩ := hw10
  have hP := hP.trans hq12 (fun _ _ => rfl)
  have b16 := hq_rng r11
  exact hp_iret hx hb hr hlocks hZ ⟨rfl, hP, ho14, (by omega)⟩ dX13_verbAtHand_20

set_option maxHeartbeats 4000000 in
set_option maxRecDepth 100000 in
theorem t_X13_takeClass (l : Launch) (D : va_G) (cs : Nat → ClassId) (B : Nat) (G : hq_G) (V : hp_V) (n : Nat) (hI : hq_I cs G V) (q : Nat) (hR : hq_RT G q) (mo : Nat) (h_mo : G mo = some (24, 0, 0, 0)) {m_tp m_sz m_fr m_bh m_hd m_ft m_fa m_le m_fo m_as m_fd m_bc m_bg m_bs m_be m_b0 m_b1 m_cm m_hc : Int32} (ho_mo : V mo = some (.inr (13, hm_o q (m_tp) (m_sz) (m_fr) (m_bh) (m_hd) (m_ft) (m_fa) (m_le) (m_fo) (m_as) (m_fd) (m_bc) (m_bg) (m_bs) (m_be) (m_b0) (m_b1) (m_cm) (m_hc)))) (hi_mo0 : 0 ≤ m_tp.toInt ∧ m_tp.toInt ≤ 4000) (hi_mo1 : 0 ≤ m_sz.toInt ∧ m_sz.toInt ≤ 4000) (hi_mo2 : 0 ≤ m_le.toInt ∧ m_le.toInt ≤ 276) (hi_mo3 : 0 ≤ m_fo.toInt ∧ m_fo.toInt ≤ 4) (hi_mo4 : 0 ≤ m_as.toInt ∧ m_as.toInt ≤ 4000) (hi_mo5 : 0 ≤ m_fd.toInt ∧ m_fd.toInt ≤ 900) (hi_mo6 : 0 ≤ m_cm.toInt ∧ m_cm.toInt ≤ 2) (hi_mo7 : 0 ≤ m_hc.toInt ∧ m_hc.toInt ≤ 1) (hi_mo8 : hm_SC m_sz m_fr m_bh m_hd) : hq_M l yX13_takeClass cX13_takeClass 2 (some .int) ({ frames := 8, cells := 0, slots := 0, locals := 170 }) D cs B V n [.ref (mo)] (hq_QX D cs B (fun v V' n' => ∃ r : Int32, v = some (.int r) ∧ n = n' ∧ hq_P cs G (fun g => g.1 == 1) V V' ∧ (∃ (m_fr1 : Int32) (m_bh1 : Int32) (m_hd1 : Int32) (m_ft1 : Int32) (m_fa1 : Int32), V' mo = some (.inr (13, hm_o q (m_tp) (m_sz) (m_fr1) (m_bh1) (m_hd1) (m_ft1) (m_fa1) (m_le) (m_fo) (m_as) (m_fd) (m_bc) (m_bg) (m_bs) (m_be) (m_b0) (m_b1) (m_cm) (m_hc))) ∧ (hm_SC m_sz m_fr1 m_bh1 m_hd1) ∧ (m_bh.toInt ≤ m_bh1.toInt)) ∧ (0 ≤ r.toInt ∧ r.toInt < 6)) (fun x V' n' => x = q + 19 ∧ n = n' ∧ hq_P cs G (fun g => g.1 == 1) V V' ∧ (∃ (m_fr1 : Int32) (m_bh1 : Int32) (m_hd1 : Int32) (m_ft1 : Int32) (m_fa1 : Int32), V' mo = some (.inr (13, hm_o q (m_tp) (m_sz) (m_fr1) (m_bh1) (m_hd1) (m_ft1) (m_fa1) (m_le) (m_fo) (m_as) (m_fd) (m_bc) (m_bg) (m_bs) (m_be) (m_b0) (m_b1) (m_cm) (m_hc))) ∧ (hm_SC m_sz m_fr1 m_bh1 m_hd1) ∧ (m_bh.toInt ≤ m_bh1.toInt)))) 0 0 := by
  refine hq_walk (R0 := RX13) (by decide) rfl ?_ (Nat.le_of_ble_eq_true rfl)
  intro p e s m below meth c ls hx hb hr hts hown hlocks hin hml hnx hZ hl
  have hP : hq_P cs G (fun g => g.1 == 1) V V := hq_P.rf hI
  have hl : lv_has ls 2 [(0, .ref (mo))] := hl
  have hb_m_tp := hq_rng m_tp
  have hb_m_sz := hq_rng m_sz
  have hb_m_fr := hq_rng m_fr
  have hb_m_bh := hq_rng m_bh
  have hb_m_hd := hq_rng m_hd
  have hb_m_ft := hq_rng m_ft
  have hb_m_fa := hq_rng m_fa
  have hb_m_le := hq_rng m_le
  have hb_m_fo := hq_rng m_fo
  have hb_m_as := hq_rng m_as
  have hb_m_fd := hq_rng m_fd
  have hb_m_bc := hq_rng m_bc
  have hb_m_bg := hq_rng m_bg
  have hb_m_bs := hq_rng m_bs
  have hb_m_be := hq_rng m_be
  have hb_m_b0 := hq_rng m_b0
  have hb_m_b1 := hq_rng m_b1
  have hb_m_cm := hq_rng m_cm
  have hb_m_hc := hq_rng m_hc
  refine lv_aload_n hx hb dX13_takeClass_0 rfl (lv_at hl 0 rfl) ?_
  refine hq_callx (hq_runV (As := []) (rest := []) hx hb hml hown hts (t_X13_needName l D cs B G  V n hP.1 q hR (mo) h_mo ho_mo  (by omega) (by omega) (by omega) (by omega) (by omega) (by omega) (by omega) (by omega) (by assumption) ) hZ ho_mo cv_X13_160 rfl rfl ⟨Nat.le_of_ble_eq_true rfl, Nat.le_of_ble_eq_true rfl⟩ rfl hl.1 rfl (Nat.le_of_ble_eq_true rfl) dX13_takeClass_1 ⟨(Nat.le_of_ble_eq_true rfl), (Nat.le_of_ble_eq_true rfl)⟩) hZ hnx hlocks (by rintro x9 V9 n9 ⟨rfl, rfl, hq9, ⟨z7x, z8x, hox0⟩⟩; have hbxz7 := hq_rng z7x; have hbxz8 := hq_rng z8x; exact ⟨rfl, rfl, hP.trans hq9 (by intro g h; simp_all), ⟨m_fr, m_bh, m_hd, z7x, z8x, hox0, by assumption, by omega⟩⟩) (fun v9 V1 n2 _ _ hw3 hZ => ?_)
  obtain ⟨rfl, rfl, hq5, ⟨z7, z8, ho9⟩, hr6⟩ := hw3
  refine W.eq (g2 := F0 m 4 ls []) rfl ?_
  have hP := hP.trans hq5 (by intro g h; simp_all)
  have b10 := hq_rng z7
  have b11 := hq_rng z8
  refine lv_aload_n hx hb dX13_takeClass_4 rfl (lv_at hl 0 rfl) ?_
  refine hp_calli (hp_runV (As := []) (rest := []) hx hb hml hown hts (t_X13_classAtHand l D cs B G  V1 n hP.1 q hR (mo) h_mo ho9  (by omega) (by omega) (by omega) (by omega) (by omega) (by omega) (by omega) (by omega) (by assumption) (by omega)) hZ ho9 cv_X13_163 rfl rfl ⟨Nat.le_of_ble_eq_true rfl, Nat.le_of_ble_eq_true rfl⟩ rfl hl.1 rfl (Nat.le_of_ble_eq_true rfl) dX13_takeClass_5 ⟨(Nat.le_of_ble_eq_true rfl), (Nat.le_of_ble_eq_true rfl)⟩) hZ (fun r15 V12 n13 _ _ hw14 hZ => ?_)
  obtain ⟨rfl, hq16, ho18, hr17⟩ := hw14
  have hP := hP.trans hq16 (fun _ _ => rfl)
  have b19 := hq_rng r15
  refine lv_istore_n (lv' := [(1, .int (r15)), (0, .ref (mo))]) hx hb dX13_takeClass_8 rfl hl (by decide) rfl (fun ls hl => ?_)
  refine lv_iload_n hx hb dX13_takeClass_9 rfl (lv_at hl 0 rfl) ?_
  refine lv_iconst (v := -1) hx hb dX13_takeClass_10 (by decide) ?_
  refine lv_icmp_ne (tgt := 20) hx hb dX13_takeClass_11 (by decide) (fun c20 => ?_) (fun c20 => ?_)
  · have c20 : ¬ (r15).toInt = (-1 : Int) := fun h9 => c20 (hq_eqi.mpr h9)
    refine lv_aload_n hx hb dX13_takeClass_20 rfl (lv_at hl 1 rfl) ?_
    refine hp_callv (hp_runV (As := []) (rest := []) hx hb hml hown hts (t_X13_scan l D cs B G  V12 n hP.1 q hR (mo) h_mo ho18  (by omega) (by omega) (by omega) (by omega) (by omega) (by omega) (by omega) (by omega) (hm_SC.s0 (by assumption)) (hm_SC.s1 (by assumption) (by first | omega | (have h8 := hm_Is.hd (by assumption) (by omega); omega)))) hZ ho18 cv_X13_111 rfl rfl ⟨Nat.le_of_ble_eq_true rfl, Nat.le_of_ble_eq_true rfl⟩ rfl hl.1 rfl (Nat.le_of_ble_eq_true rfl) dX13_takeClass_21 ⟨(Nat.le_of_ble_eq_true rfl), (Nat.le_of_ble_eq_true rfl)⟩) hZ (fun V21 n22 _ _ hw23 hZ => ?_)
    obtain ⟨rfl, hq25, ⟨z27, z28, z29, ho30, hi31, hi32, hi33⟩⟩ := hw23
    have hP := hP.trans hq25 (by intro g h; simp_all)
    have b34 := hq_rng z27
    have b35 := hq_rng z28
    have b36 := hq_rng z29
    refine lv_iload_n hx hb dX13_takeClass_24 rfl (lv_at hl 0 rfl) ?_
    exact hq_iret hx hb hr hlocks hZ ⟨_, rfl, rfl, hP, ⟨z27, z28, z29, z7, z8, ho30, by assumption, by omega⟩, (by omega)⟩ dX13_takeClass_25
  · have c20 : (r15).toInt = (-1 : Int) := hq_eqi.mp c20
    refine lv_aload_n hx hb dX13_takeClass_14 rfl (lv_at hl 1 rfl) ?_
    refine lv_iconst (v := 2) hx hb dX13_takeClass_15 (by decide) ?_
    have hl46 : (2 : Int32).toInt = 2 := by decide
    refine hp_callq (hp_runV (As := [.int (2)]) (rest := []) hx hb hml hown hts (t_X13_wrong l D cs B G  V12 n hP.1 q hR (mo) h_mo (2) ho18  (by omega) (by omega) (by omega) (by omega) (by omega) (by omega) (by omega) (by omega) ) hZ ho18 cv_X13_107 rfl rfl ⟨Nat.le_of_ble_eq_true rfl, Nat.le_of_ble_eq_true rfl⟩ rfl hl.1 rfl (Nat.le_of_ble_eq_true rfl) dX13_takeClass_16 ⟨(Nat.le_of_ble_eq_true rfl), (Nat.le_of_ble_eq_true rfl)⟩) hZ (fun r40 V37 n38 _ _ hw39 hZ => ?_)
    obtain ⟨rfl, hq41, ⟨z43, z44, ho45⟩, hr42⟩ := hw39
    have hP := hP.trans hq41 (by intro g h; simp_all)
    have b47 := hq_rng z43
    have b48 := hq_rng z44
    subst hr42
    refine W.eq (g2 := F0 m 19 ls [.ref (q + 19)]) rfl ?_
    exact hq_athrow hx hb hnx hlocks hZ ⟨rfl, rfl, hP, ⟨m_fr, m_bh, m_hd, z43, z44, ho45, by assumption, by omega⟩⟩ dX13_takeClass_19

set_option maxHeartbeats 4000000 in
set_option maxRecDepth 100000 in
theorem t_X13_takeVerb (l : Launch) (D : va_G) (cs : Nat → ClassId) (B : Nat) (G : hq_G) (V : hp_V) (n : Nat) (hI : hq_I cs G V) (q : Nat) (hR : hq_RT G q) (mo : Nat) (h_mo : G mo = some (24, 0, 0, 0)) {m_tp m_sz m_fr m_bh m_hd m_ft m_fa m_le m_fo m_as m_fd m_bc m_bg m_bs m_be m_b0 m_b1 m_cm m_hc : Int32} (ho_mo : V mo = some (.inr (13, hm_o q (m_tp) (m_sz) (m_fr) (m_bh) (m_hd) (m_ft) (m_fa) (m_le) (m_fo) (m_as) (m_fd) (m_bc) (m_bg) (m_bs) (m_be) (m_b0) (m_b1) (m_cm) (m_hc)))) (hi_mo0 : 0 ≤ m_tp.toInt ∧ m_tp.toInt ≤ 4000) (hi_mo1 : 0 ≤ m_sz.toInt ∧ m_sz.toInt ≤ 4000) (hi_mo2 : 0 ≤ m_le.toInt ∧ m_le.toInt ≤ 276) (hi_mo3 : 0 ≤ m_fo.toInt ∧ m_fo.toInt ≤ 4) (hi_mo4 : 0 ≤ m_as.toInt ∧ m_as.toInt ≤ 4000) (hi_mo5 : 0 ≤ m_fd.toInt ∧ m_fd.toInt ≤ 900) (hi_mo6 : 0 ≤ m_cm.toInt ∧ m_cm.toInt ≤ 2) (hi_mo7 : 0 ≤ m_hc.toInt ∧ m_hc.toInt ≤ 1) (hi_mo8 : hm_SC m_sz m_fr m_bh m_hd) : hq_M l yX13_takeVerb cX13_takeVerb 2 (some .int) ({ frames := 8, cells := 0, slots := 0, locals := 170 }) D cs B V n [.ref (mo)] (hq_QX D cs B (fun v V' n' => ∃ r : Int32, v = some (.int r) ∧ n = n' ∧ hq_P cs G (fun g => g.1 == 1) V V' ∧ (∃ (m_fr1 : Int32) (m_bh1 : Int32) (m_hd1 : Int32) (m_ft1 : Int32) (m_fa1 : Int32), V' mo = some (.inr (13, hm_o q (m_tp) (m_sz) (m_fr1) (m_bh1) (m_hd1) (m_ft1) (m_fa1) (m_le) (m_fo) (m_as) (m_fd) (m_bc) (m_bg) (m_bs) (m_be) (m_b0) (m_b1) (m_cm) (m_hc))) ∧ (hm_SC m_sz m_fr1 m_bh1 m_hd1) ∧ (m_bh.toInt ≤ m_bh1.toInt)) ∧ (0 ≤ r.toInt ∧ r.toInt < 30)) (fun x V' n' => x = q + 19 ∧ n = n' ∧ hq_P cs G (fun g => g.1 == 1) V V' ∧ (∃ (m_fr1 : Int32) (m_bh1 : Int32) (m_hd1 : Int32) (m_ft1 : Int32) (m_fa1 : Int32), V' mo = some (.inr (13, hm_o q (m_tp) (m_sz) (m_fr1) (m_bh1) (m_hd1) (m_ft1) (m_fa1) (m_le) (m_fo) (m_as) (m_fd) (m_bc) (m_bg) (m_bs) (m_be) (m_b0) (m_b1) (m_cm) (m_hc))) ∧ (hm_SC m_sz m_fr1 m_bh1 m_hd1) ∧ (m_bh.toInt ≤ m_bh1.toInt)))) 0 0 := by
  refine hq_walk (R0 := RX13) (by decide) rfl ?_ (Nat.le_of_ble_eq_true rfl)
  intro p e s m below meth c ls hx hb hr hts hown hlocks hin hml hnx hZ hl
  have hP : hq_P cs G (fun g => g.1 == 1) V V := hq_P.rf hI
  have hl : lv_has ls 2 [(0, .ref (mo))] := hl
  have hb_m_tp := hq_rng m_tp
  have hb_m_sz := hq_rng m_sz
  have hb_m_fr := hq_rng m_fr
  have hb_m_bh := hq_rng m_bh
  have hb_m_hd := hq_rng m_hd
  have hb_m_ft := hq_rng m_ft
  have hb_m_fa := hq_rng m_fa
  have hb_m_le := hq_rng m_le
  have hb_m_fo := hq_rng m_fo
  have hb_m_as := hq_rng m_as
  have hb_m_fd := hq_rng m_fd
  have hb_m_bc := hq_rng m_bc
  have hb_m_bg := hq_rng m_bg
  have hb_m_bs := hq_rng m_bs
  have hb_m_be := hq_rng m_be
  have hb_m_b0 := hq_rng m_b0
  have hb_m_b1 := hq_rng m_b1
  have hb_m_cm := hq_rng m_cm
  have hb_m_hc := hq_rng m_hc
  refine lv_aload_n hx hb dX13_takeVerb_0 rfl (lv_at hl 0 rfl) ?_
  refine hq_callx (hq_runV (As := []) (rest := []) hx hb hml hown hts (t_X13_needName l D cs B G  V n hP.1 q hR (mo) h_mo ho_mo  (by omega) (by omega) (by omega) (by omega) (by omega) (by omega) (by omega) (by omega) (by assumption) ) hZ ho_mo cv_X13_160 rfl rfl ⟨Nat.le_of_ble_eq_true rfl, Nat.le_of_ble_eq_true rfl⟩ rfl hl.1 rfl (Nat.le_of_ble_eq_true rfl) dX13_takeVerb_1 ⟨(Nat.le_of_ble_eq_true rfl), (Nat.le_of_ble_eq_true rfl)⟩) hZ hnx hlocks (by rintro x9 V9 n9 ⟨rfl, rfl, hq9, ⟨z7x, z8x, hox0⟩⟩; have hbxz7 := hq_rng z7x; have hbxz8 := hq_rng z8x; exact ⟨rfl, rfl, hP.trans hq9 (by intro g h; simp_all), ⟨m_fr, m_bh, m_hd, z7x, z8x, hox0, by assumption, by omega⟩⟩) (fun v9 V1 n2 _ _ hw3 hZ => ?_)
  obtain ⟨rfl, rfl, hq5, ⟨z7, z8, ho9⟩, hr6⟩ := hw3
  refine W.eq (g2 := F0 m 4 ls []) rfl ?_
  have hP := hP.trans hq5 (by intro g h; simp_all)
  have b10 := hq_rng z7
  have b11 := hq_rng z8
  refine lv_aload_n hx hb dX13_takeVerb_4 rfl (lv_at hl 0 rfl) ?_
  refine hp_calli (hp_runV (As := []) (rest := []) hx hb hml hown hts (t_X13_verbAtHand l D cs B G  V1 n hP.1 q hR (mo) h_mo ho9  (by omega) (by omega) (by omega) (by omega) (by omega) (by omega) (by omega) (by omega) (by assumption) (by omega)) hZ ho9 cv_X13_166 rfl rfl ⟨Nat.le_of_ble_eq_true rfl, Nat.le_of_ble_eq_true rfl⟩ rfl hl.1 rfl (Nat.le_of_ble_eq_true rfl) dX13_takeVerb_5 ⟨(Nat.le_of_ble_eq_true rfl), (Nat.le_of_ble_eq_true rfl)⟩) hZ (fun r15 V12 n13 _ _ hw14 hZ => ?_)
  obtain ⟨rfl, hq16, ho18, hr17⟩ := hw14
  have hP := hP.trans hq16 (fun _ _ => rfl)
  have b19 := hq_rng r15
  refine lv_istore_n (lv' := [(1, .int (r15)), (0, .ref (mo))]) hx hb dX13_takeVerb_8 rfl hl (by decide) rfl (fun ls hl => ?_)
  refine lv_iload_n hx hb dX13_takeVerb_9 rfl (lv_at hl 0 rfl) ?_
  refine lv_iconst (v := -1) hx hb dX13_takeVerb_10 (by decide) ?_
  refine lv_icmp_ne (tgt := 20) hx hb dX13_takeVerb_11 (by decide) (fun c20 => ?_) (fun c20 => ?_)
  · have c20 : ¬ (r15).toInt = (-1 : Int) := fun h9 => c20 (hq_eqi.mpr h9)
    refine lv_aload_n hx hb dX13_takeVerb_20 rfl (lv_at hl 1 rfl) ?_
    refine hp_callv (hp_runV (As := []) (rest := []) hx hb hml hown hts (t_X13_scan l D cs B G  V12 n hP.1 q hR (mo) h_mo ho18  (by omega) (by omega) (by omega) (by omega) (by omega) (by omega) (by omega) (by omega) (hm_SC.s0 (by assumption)) (hm_SC.s1 (by assumption) (by first | omega | (have h8 := hm_Is.hd (by assumption) (by omega); omega)))) hZ ho18 cv_X13_111 rfl rfl ⟨Nat.le_of_ble_eq_true rfl, Nat.le_of_ble_eq_true rfl⟩ rfl hl.1 rfl (Nat.le_of_ble_eq_true rfl) dX13_takeVerb_21 ⟨(Nat.le_of_ble_eq_true rfl), (Nat.le_of_ble_eq_true rfl)⟩) hZ (fun V21 n22 _ _ hw23 hZ => ?_)
    obtain ⟨rfl, hq25, ⟨z27, z28, z29, ho30, hi31, hi32, hi33⟩⟩ := hw23
    have hP := hP.trans hq25 (by intro g h; simp_all)
    have b34 := hq_rng z27
    have b35 := hq_rng z28
    have b36 := hq_rng z29
    refine lv_iload_n hx hb dX13_takeVerb_24 rfl (lv_at hl 0 rfl) ?_
    exact hq_iret hx hb hr hlocks hZ ⟨_, rfl, rfl, hP, ⟨z27, z28, z29, z7, z8, ho30, by assumption, by omega⟩, (by omega)⟩ dX13_takeVerb_25
  · have c20 : (r15).toInt = (-1 : Int) := hq_eqi.mp c20
    refine lv_aload_n hx hb dX13_takeVerb_14 rfl (lv_at hl 1 rfl) ?_
    refine lv_iconst (v := 2) hx hb dX13_takeVerb_15 (by decide) ?_
    have hl46 : (2 : Int32).toInt = 2 := by decide
    refine hp_callq (hp_runV (As := [.int (2)]) (rest := []) hx hb hml hown hts (t_X13_wrong l D cs B G  V12 n hP.1 q hR (mo) h_mo (2) ho18  (by omega) (by omega) (by omega) (by omega) (by omega) (by omega) (by omega) (by omega) ) hZ ho18 cv_X13_107 rfl rfl ⟨Nat.le_of_ble_eq_true rfl, Nat.le_of_ble_eq_true rfl⟩ rfl hl.1 rfl (Nat.le_of_ble_eq_true rfl) dX13_takeVerb_16 ⟨(Nat.le_of_ble_eq_true rfl), (Nat.le_of_ble_eq_true rfl)⟩) hZ (fun r40 V37 n38 _ _ hw39 hZ => ?_)
    obtain ⟨rfl, hq41, ⟨z43, z44, ho45⟩, hr42⟩ := hw39
    have hP := hP.trans hq41 (by intro g h; simp_all)
    have b47 := hq_rng z43
    have b48 := hq_rng z44
    subst hr42
    refine W.eq (g2 := F0 m 19 ls [.ref (q + 19)]) rfl ?_
    exact hq_athrow hx hb hnx hlocks hZ ⟨rfl, rfl, hP, ⟨m_fr, m_bh, m_hd, z43, z44, ho45, by assumption, by omega⟩⟩ dX13_takeVerb_19

set_option maxHeartbeats 4000000 in
set_option maxRecDepth 100000 in
theorem t_X13_readWhere (l : Launch) (D : va_G) (cs : Nat → ClassId) (B : Nat) (G : hq_G) (V : hp_V) (n : Nat) (hI : hq_I cs G V) (q : Nat) (hR : hq_RT G q) (mo : Nat) (h_mo : G mo = some (24, 0, 0, 0)) (k : Int32) {m_tp m_sz m_fr m_bh m_hd m_ft m_fa m_le m_fo m_as m_fd m_bc m_bg m_bs m_be m_b0 m_b1 m_cm m_hc : Int32} (ho_mo : V mo = some (.inr (13, hm_o q (m_tp) (m_sz) (m_fr) (m_bh) (m_hd) (m_ft) (m_fa) (m_le) (m_fo) (m_as) (m_fd) (m_bc) (m_bg) (m_bs) (m_be) (m_b0) (m_b1) (m_cm) (m_hc)))) (hi_mo0 : 0 ≤ m_tp.toInt ∧ m_tp.toInt ≤ 4000) (hi_mo1 : 0 ≤ m_sz.toInt ∧ m_sz.toInt ≤ 4000) (hi_mo2 : 0 ≤ m_le.toInt ∧ m_le.toInt ≤ 276) (hi_mo3 : 0 ≤ m_fo.toInt ∧ m_fo.toInt ≤ 4) (hi_mo4 : 0 ≤ m_as.toInt ∧ m_as.toInt ≤ 4000) (hi_mo5 : 0 ≤ m_fd.toInt ∧ m_fd.toInt ≤ 900) (hi_mo6 : 0 ≤ m_cm.toInt ∧ m_cm.toInt ≤ 2) (hi_mo7 : 0 ≤ m_hc.toInt ∧ m_hc.toInt ≤ 1) (hi_mo8 : hm_SC m_sz m_fr m_bh m_hd) (hl0 : 0 ≤ k.toInt) (hl1 : k.toInt < 120) : hq_M l yX13_readWhere cX13_readWhere 2 none ({ frames := 9, cells := 0, slots := 0, locals := 191 }) D cs B V n [.ref (mo), .int (k)] (hq_QX D cs B (fun v V' n' => v = none ∧ n = n' ∧ hq_P cs G (fun g => g.1 == 1 || g.1 == 41) V V' ∧ (∃ (m_fr1 : Int32) (m_bh1 : Int32) (m_hd1 : Int32) (m_ft1 : Int32) (m_fa1 : Int32), V' mo = some (.inr (13, hm_o q (m_tp) (m_sz) (m_fr1) (m_bh1) (m_hd1) (m_ft1) (m_fa1) (m_le) (m_fo) (m_as) (m_fd) (m_bc) (m_bg) (m_bs) (m_be) (m_b0) (m_b1) (m_cm) (m_hc))) ∧ (hm_SC m_sz m_fr1 m_bh1 m_hd1) ∧ (m_bh.toInt ≤ m_bh1.toInt))) (fun x V' n' => x = q + 19 ∧ n = n' ∧ hq_P cs G (fun g => g.1 == 1 || g.1 == 41) V V' ∧ (∃ (m_fr1 : Int32) (m_bh1 : Int32) (m_hd1 : Int32) (m_ft1 : Int32) (m_fa1 : Int32), V' mo = some (.inr (13, hm_o q (m_tp) (m_sz) (m_fr1) (m_bh1) (m_hd1) (m_ft1) (m_fa1) (m_le) (m_fo) (m_as) (m_fd) (m_bc) (m_bg) (m_bs) (m_be) (m_b0) (m_b1) (m_cm) (m_hc))) ∧ (hm_SC m_sz m_fr1 m_bh1 m_hd1) ∧ (m_bh.toInt ≤ m_bh1.toInt)))) 0 0 := by
  refine hq_walk (R0 := RX13) (by decide) rfl ?_ (Nat.le_of_ble_eq_true rfl)
  intro p e s m below meth c ls hx hb hr hts hown hlocks hin hml hnx hZ hl
  have hP : hq_P cs G (fun g => g.1 == 1 || g.1 == 41) V V := hq_P.rf hI
  have hl : lv_has ls 2 [(0, .ref (mo)), (1, .int (k))] := hl
  have hb_k := hq_rng k
  have hb_m_tp := hq_rng m_tp
  have hb_m_sz := hq_rng m_sz
  have hb_m_fr := hq_rng m_fr
  have hb_m_bh := hq_rng m_bh
  have hb_m_hd := hq_rng m_hd
  have hb_m_ft := hq_rng m_ft
  have hb_m_fa := hq_rng m_fa
  have hb_m_le := hq_rng m_le
  have hb_m_fo := hq_rng m_fo
  have hb_m_as := hq_rng m_as
  have hb_m_fd := hq_rng m_fd
  have hb_m_bc := hq_rng m_bc
  have hb_m_bg := hq_rng m_bg
  have hb_m_bs := hq_rng m_bs
  have hb_m_be := hq_rng m_be
  have hb_m_b0 := hq_rng m_b0
  have hb_m_b1 := hq_rng m_b1
  have hb_m_cm := hq_rng m_cm
  have hb_m_hc := hq_rng m_hc
  refine lv_aload_n hx hb dX13_readWhere_0 rfl (lv_at hl 0 rfl) ?_
  refine va_ldcS (tx := (hp_so.getD 15 ("", 0, "")).2.2) (q := cs (100 + 15)) hx hb hown (hZ.2.2.2.2.2.2.2.2.2.2 15 (by decide)) dX13_readWhere_1 ?_
  refine hp_calli (hp_runV (As := [.ref (cs (100 + 15))]) (rest := []) hx hb hml hown hts (t_X13_is l D cs B G  V n hP.1 q hR (mo) h_mo 15 (by decide) ho_mo  (by omega) (by omega) (by omega) (by omega) (by omega) (by omega) (by omega) (by omega) (by assumption) ) hZ ho_mo cv_X13_103 rfl rfl ⟨Nat.le_of_ble_eq_true rfl, Nat.le_of_ble_eq_true rfl⟩ rfl hl.1 rfl (Nat.le_of_ble_eq_true rfl) dX13_readWhere_3 ⟨(Nat.le_of_ble_eq_true rfl), (Nat.le_of_ble_eq_true rfl)⟩) hZ (fun r4 V1 n2 _ _ hw3 hZ => ?_)
  obtain ⟨rfl, hq5, ho7, hr6⟩ := hw3
  have hP := hP.trans hq5 (fun _ _ => rfl)
  have b8 := hq_rng r4
  refine lv_if_eq (tgt := 14) hx hb dX13_readWhere_6 (by decide) (fun c9 => ?_) (fun c9 => ?_)
  · have c9 : (r4).toInt = (0 : Int) := hq_eqi.mp c9
    refine lv_aload_n hx hb dX13_readWhere_14 rfl (lv_at hl 0 rfl) ?_
    refine va_ldcS (tx := (hp_so.getD 16 ("", 0, "")).2.2) (q := cs (100 + 16)) hx hb hown (hZ.2.2.2.2.2.2.2.2.2.2 16 (by decide)) dX13_readWhere_15 ?_
    refine hq_callx (hq_runV (As := [.ref (cs (100 + 16))]) (rest := []) hx hb hml hown hts (t_X13_need l D cs B G  V1 n hP.1 q hR (mo) h_mo 16 (by decide) ho7  (by omega) (by omega) (by omega) (by omega) (by omega) (by omega) (by omega) (by omega) (by assumption) ) hZ ho7 cv_X13_172 rfl rfl ⟨Nat.le_of_ble_eq_true rfl, Nat.le_of_ble_eq_true rfl⟩ rfl hl.1 rfl (Nat.le_of_ble_eq_true rfl) dX13_readWhere_17 ⟨(Nat.le_of_ble_eq_true rfl), (Nat.le_of_ble_eq_true rfl)⟩) hZ hnx hlocks (by rintro x9 V9 n9 ⟨rfl, rfl, hq9, ⟨z16x, z17x, z18x, z19x, z20x, hox0, hix00, hix01⟩⟩; have hbxz16 := hq_rng z16x; have hbxz17 := hq_rng z17x; have hbxz18 := hq_rng z18x; have hbxz19 := hq_rng z19x; have hbxz20 := hq_rng z20x; exact ⟨rfl, rfl, hP.trans hq9 (by intro g h; simp_all), ⟨z16x, z17x, z18x, z19x, z20x, hox0, by assumption, by omega⟩⟩) (fun v9 V10 n11 _ _ hw12 hZ => ?_)
    obtain ⟨rfl, rfl, hq14, ⟨z16, z17, z18, z19, z20, ho21, hi22, hi23⟩⟩ := hw12
    refine W.eq (g2 := F0 m 20 ls []) rfl ?_
    have hP := hP.trans hq14 (by intro g h; simp_all)
    have b24 := hq_rng z16
    have b25 := hq_rng z17
    have b26 := hq_rng z18
    have b27 := hq_rng z19
    have b28 := hq_rng z20
    refine lv_aload_n hx hb dX13_readWhere_20 rfl (lv_at hl 0 rfl) ?_
    refine hp_get (v := .ref (q + 11)) hx hb hts hown hZ ho21 fl_X13_32 rfl dX13_readWhere_21 ?_
    refine lv_iload_n hx hb dX13_readWhere_24 rfl (lv_at hl 1 rfl) ?_
    refine lv_aload_n hx hb dX13_readWhere_25 rfl (lv_at hl 0 rfl) ?_
    refine hq_callx (hq_runV (As := []) (rest := [.int (k), .ref (q + 11)]) hx hb hml hown hts (t_X13_takeClass l D cs B G  V10 n hP.1 q hR (mo) h_mo ho21  (by omega) (by omega) (by omega) (by omega) (by omega) (by omega) (by omega) (by omega) (by assumption) ) hZ ho21 cv_X13_176 rfl rfl ⟨Nat.le_of_ble_eq_true rfl, Nat.le_of_ble_eq_true rfl⟩ rfl hl.1 rfl (Nat.le_of_ble_eq_true rfl) dX13_readWhere_26 ⟨(Nat.le_of_ble_eq_true rfl), (Nat.le_of_ble_eq_true rfl)⟩) hZ hnx hlocks (by rintro x9 V9 n9 ⟨rfl, rfl, hq9, ⟨z35x, z36x, z37x, z38x, z39x, hox0, hix00, hix01⟩⟩; have hbxz35 := hq_rng z35x; have hbxz36 := hq_rng z36x; have hbxz37 := hq_rng z37x; have hbxz38 := hq_rng z38x; have hbxz39 := hq_rng z39x; exact ⟨rfl, rfl, hP.trans hq9 (by intro g h; simp_all), ⟨z35x, z36x, z37x, z38x, z39x, hox0, by assumption, by omega⟩⟩) (fun v9 V29 n30 _ _ hw31 hZ => ?_)
    obtain ⟨r32, rfl, rfl, hq33, ⟨z35, z36, z37, z38, z39, ho40, hi41, hi42⟩, hr34⟩ := hw31
    refine W.eq (g2 := F0 m 29 ls [.int (r32), .int (k), .ref (q + 11)]) rfl ?_
    have hP := hP.trans hq33 (by intro g h; simp_all)
    have b43 := hq_rng z35
    have b44 := hq_rng z36
    have b45 := hq_rng z37
    have b46 := hq_rng z38
    have b47 := hq_rng z39
    have b48 := hq_rng r32
    obtain ⟨hN51, g50, eV49, hf52⟩ := hq_o21 hP.1 (hr_11 hR)
    refine hp_iast hx hb hZ eV49 (hq_in (by omega) (by omega)) dX13_readWhere_29 (fun V53 _ _ e54 o55 hZ => ?_)
    have e54 : V53 (q + 11) = some (.inl (cs 1, 120, .inl (upd (g50) ((k : Int32).toNatClampNeg) (r32)))) := e54
    have hP := hP.put (hr_11 hR) e54 o55 (hq_c21 (by omega) (hq_upd hf52 (hq_rng _))) rfl
    have fx56 : V53 (mo) = some (.inr (13, hm_o q (m_tp) (m_sz) (z35) (z36) (z37) (z38) (z39) (m_le) (m_fo) (m_as) (m_fd) (m_bc) (m_bg) (m_bs) (m_be) (m_b0) (m_b1) (m_cm) (m_hc))) := (o55 (mo) (hq_tne h_mo (hr_11 hR) (by simp))).trans (ho40)
    exact hq_vret hx hb hr hlocks hZ ⟨rfl, rfl, hP, ⟨z35, z36, z37, z38, z39, fx56, by assumption, by omega⟩⟩ dX13_readWhere_30
  · have c9 : ¬ (r4).toInt = (0 : Int) := fun h9 => c9 (hq_eqi.mpr h9)
    refine lv_aload_n hx hb dX13_readWhere_9 rfl (lv_at hl 0 rfl) ?_
    refine hp_callv (hp_runV (As := []) (rest := []) hx hb hml hown hts (t_X13_scan l D cs B G  V1 n hP.1 q hR (mo) h_mo ho7  (by omega) (by omega) (by omega) (by omega) (by omega) (by omega) (by omega) (by omega) (hm_SC.s0 (by assumption)) (hm_SC.s1 (by assumption) (by first | omega | (have h8 := hm_Is.hd (by assumption) (by omega); omega)))) hZ ho7 cv_X13_111 rfl rfl ⟨Nat.le_of_ble_eq_true rfl, Nat.le_of_ble_eq_true rfl⟩ rfl hl.1 rfl (Nat.le_of_ble_eq_true rfl) dX13_readWhere_10 ⟨(Nat.le_of_ble_eq_true rfl), (Nat.le_of_ble_eq_true rfl)⟩) hZ (fun V57 n58 _ _ hw59 hZ => ?_)
    obtain ⟨rfl, hq61, ⟨z63, z64, z65, ho66, hi67, hi68, hi69⟩⟩ := hw59
    have hP := hP.trans hq61 (by intro g h; simp_all)
    have b70 := hq_rng z63
    have b71 := hq_rng z64
    have b72 := hq_rng z65
    exact hq_vret hx hb hr hlocks hZ ⟨rfl, rfl, hP, ⟨z63, z64, z65, m_ft, m_fa, ho66, by assumption, by omega⟩⟩ dX13_readWhere_13

set_option maxHeartbeats 4000000 in
set_option maxRecDepth 100000 in
theorem t_X13_readSlot (l : Launch) (D : va_G) (cs : Nat → ClassId) (B : Nat) (G : hq_G) (V : hp_V) (n : Nat) (hI : hq_I cs G V) (q : Nat) (hR : hq_RT G q) (mo : Nat) (h_mo : G mo = some (24, 0, 0, 0)) (k : Int32) {m_tp m_sz m_fr m_bh m_hd m_ft m_fa m_le m_fo m_as m_fd m_bc m_bg m_bs m_be m_b0 m_b1 m_cm m_hc : Int32} (ho_mo : V mo = some (.inr (13, hm_o q (m_tp) (m_sz) (m_fr) (m_bh) (m_hd) (m_ft) (m_fa) (m_le) (m_fo) (m_as) (m_fd) (m_bc) (m_bg) (m_bs) (m_be) (m_b0) (m_b1) (m_cm) (m_hc)))) (hi_mo0 : 0 ≤ m_tp.toInt ∧ m_tp.toInt ≤ 4000) (hi_mo1 : 0 ≤ m_sz.toInt ∧ m_sz.toInt ≤ 4000) (hi_mo2 : 0 ≤ m_le.toInt ∧ m_le.toInt ≤ 276) (hi_mo3 : 0 ≤ m_fo.toInt ∧ m_fo.toInt ≤ 4) (hi_mo4 : 0 ≤ m_as.toInt ∧ m_as.toInt ≤ 4000) (hi_mo5 : 0 ≤ m_fd.toInt ∧ m_fd.toInt ≤ 900) (hi_mo6 : 0 ≤ m_cm.toInt ∧ m_cm.toInt ≤ 2) (hi_mo7 : 0 ≤ m_hc.toInt ∧ m_hc.toInt ≤ 1) (hi_mo8 : hm_SC m_sz m_fr m_bh m_hd) (hl0 : 0 ≤ k.toInt) (hl1 : k.toInt < 120) : hq_M l yX13_readSlot cX13_readSlot 2 none ({ frames := 7, cells := 0, slots := 0, locals := 150 }) D cs B V n [.ref (mo), .int (k)] (hq_QX D cs B (fun v V' n' => v = none ∧ n = n' ∧ hq_P cs G (fun g => g.1 == 1 || g.1 == 41) V V' ∧ (∃ (m_fr1 : Int32) (m_bh1 : Int32) (m_hd1 : Int32) (m_ft1 : Int32) (m_fa1 : Int32), V' mo = some (.inr (13, hm_o q (m_tp) (m_sz) (m_fr1) (m_bh1) (m_hd1) (m_ft1) (m_fa1) (m_le) (m_fo) (m_as) (m_fd) (m_bc) (m_bg) (m_bs) (m_be) (m_b0) (m_b1) (m_cm) (m_hc))) ∧ (hm_SC m_sz m_fr1 m_bh1 m_hd1) ∧ (m_bh.toInt ≤ m_bh1.toInt))) (fun x V' n' => x = q + 19 ∧ n = n' ∧ hq_P cs G (fun g => g.1 == 1 || g.1 == 41) V V' ∧ (∃ (m_fr1 : Int32) (m_bh1 : Int32) (m_hd1 : Int32) (m_ft1 : Int32) (m_fa1 : Int32), V' mo = some (.inr (13, hm_o q (m_tp) (m_sz) (m_fr1) (m_bh1) (m_hd1) (m_ft1) (m_fa1) (m_le) (m_fo) (m_as) (m_fd) (m_bc) (m_bg) (m_bs) (m_be) (m_b0) (m_b1) (m_cm) (m_hc))) ∧ (hm_SC m_sz m_fr1 m_bh1 m_hd1) ∧ (m_bh.toInt ≤ m_bh1.toInt)))) 0 0 := by
  refine hq_walk (R0 := RX13) (by decide) rfl ?_ (Nat.le_of_ble_eq_true rfl)
  intro p e s m below meth c ls hx hb hr hts hown hlocks hin hml hnx hZ hl
  have hP : hq_P cs G (fun g => g.1 == 1 || g.1 == 41) V V := hq_P.rf hI
  have hl : lv_has ls 2 [(0, .ref (mo)), (1, .int (k))] := hl
  have hb_k := hq_rng k
  have hb_m_tp := hq_rng m_tp
  have hb_m_sz := hq_rng m_sz
  have hb_m_fr := hq_rng m_fr
  have hb_m_bh := hq_rng m_bh
  have hb_m_hd := hq_rng m_hd
  have hb_m_ft := hq_rng m_ft
  have hb_m_fa := hq_rng m_fa
  have hb_m_le := hq_rng m_le
  have hb_m_fo := hq_rng m_fo
  have hb_m_as := hq_rng m_as
  have hb_m_fd := hq_rng m_fd
  have hb_m_bc := hq_rng m_bc
  have hb_m_bg := hq_rng m_bg
  have hb_m_bs := hq_rng m_bs
  have hb_m_be := hq_rng m_be
  have hb_m_b0 := hq_rng m_b0
  have hb_m_b1 := hq_rng m_b1
  have hb_m_cm := hq_rng m_cm
  have hb_m_hc := hq_rng m_hc
  refine lv_aload_n hx hb dX13_readSlot_0 rfl (lv_at hl 0 rfl) ?_
  refine va_ldcS (tx := (hp_so.getD 10 ("", 0, "")).2.2) (q := cs (100 + 10)) hx hb hown (hZ.2.2.2.2.2.2.2.2.2.2 10 (by decide)) dX13_readSlot_1 ?_
  refine hq_callx (hq_runV (As := [.ref (cs (100 + 10))]) (rest := []) hx hb hml hown hts (t_X13_need l D cs B G  V n hP.1 q hR (mo) h_mo 10 (by decide) ho_mo  (by omega) (by omega) (by omega) (by omega) (by omega) (by omega) (by omega) (by omega) (by assumption) ) hZ ho_mo cv_X13_172 rfl rfl ⟨Nat.le_of_ble_eq_true rfl, Nat.le_of_ble_eq_true rfl⟩ rfl hl.1 rfl (Nat.le_of_ble_eq_true rfl) dX13_readSlot_3 ⟨(Nat.le_of_ble_eq_true rfl), (Nat.le_of_ble_eq_true rfl)⟩) hZ hnx hlocks (by rintro x9 V9 n9 ⟨rfl, rfl, hq9, ⟨z7x, z8x, z9x, z10x, z11x, hox0, hix00, hix01⟩⟩; have hbxz7 := hq_rng z7x; have hbxz8 := hq_rng z8x; have hbxz9 := hq_rng z9x; have hbxz10 := hq_rng z10x; have hbxz11 := hq_rng z11x; exact ⟨rfl, rfl, hP.trans hq9 (by intro g h; simp_all), ⟨z7x, z8x, z9x, z10x, z11x, hox0, by assumption, by omega⟩⟩) (fun v9 V1 n2 _ _ hw3 hZ => ?_)
  obtain ⟨rfl, rfl, hq5, ⟨z7, z8, z9, z10, z11, ho12, hi13, hi14⟩⟩ := hw3
  refine W.eq (g2 := F0 m 6 ls []) rfl ?_
  have hP := hP.trans hq5 (by intro g h; simp_all)
  have b15 := hq_rng z7
  have b16 := hq_rng z8
  have b17 := hq_rng z9
  have b18 := hq_rng z10
  have b19 := hq_rng z11
  refine lv_aload_n hx hb dX13_readSlot_6 rfl (lv_at hl 0 rfl) ?_
  refine hp_get (v := .ref (q + 12)) hx hb hts hown hZ ho12 fl_X13_35 rfl dX13_readSlot_7 ?_
  refine lv_iload_n hx hb dX13_readSlot_10 rfl (lv_at hl 1 rfl) ?_
  refine lv_aload_n hx hb dX13_readSlot_11 rfl (lv_at hl 0 rfl) ?_
  refine lv_iconst (v := 4) hx hb dX13_readSlot_12 (by decide) ?_
  have hl34 : (4 : Int32).toInt = 4 := by decide
  refine hq_callx (hq_runV (As := [.int (4)]) (rest := [.int (k), .ref (q + 12)]) hx hb hml hown hts (t_X13_digit l D cs B G  V1 n hP.1 q hR (mo) h_mo (4) ho12  (by omega) (by omega) (by omega) (by omega) (by omega) (by omega) (by omega) (by omega) (by assumption) ) hZ ho12 cv_X13_202 rfl rfl ⟨Nat.le_of_ble_eq_true rfl, Nat.le_of_ble_eq_true rfl⟩ rfl hl.1 rfl (Nat.le_of_ble_eq_true rfl) dX13_readSlot_13 ⟨(Nat.le_of_ble_eq_true rfl), (Nat.le_of_ble_eq_true rfl)⟩) hZ hnx hlocks (by rintro x9 V9 n9 ⟨rfl, rfl, hq9, ⟨z26x, z27x, z28x, z29x, z30x, hox0, hix00, hix01⟩⟩; have hbxz26 := hq_rng z26x; have hbxz27 := hq_rng z27x; have hbxz28 := hq_rng z28x; have hbxz29 := hq_rng z29x; have hbxz30 := hq_rng z30x; exact ⟨rfl, rfl, hP.trans hq9 (by intro g h; simp_all), ⟨z26x, z27x, z28x, z29x, z30x, hox0, by assumption, by omega⟩⟩) (fun v9 V20 n21 _ _ hw22 hZ => ?_)
  obtain ⟨r23, rfl, rfl, hq24, ⟨z26, z27, z28, z29, z30, ho31, hi32, hi33⟩, hr25⟩ := hw22
  refine W.eq (g2 := F0 m 16 ls [.int (r23), .int (k), .ref (q + 12)]) rfl ?_
  have hP := hP.trans hq24 (by intro g h; simp_all)
  have b35 := hq_rng z26
  have b36 := hq_rng z27
  have b37 := hq_rng z28
  have b38 := hq_rng z29
  have b39 := hq_rng z30
  have b40 := hq_rng r23
  obtain ⟨hN43, g42, eV41, hf44⟩ := hq_o21 hP.1 (hr_12 hR)
  refine hp_iast hx hb hZ eV41 (hq_in (by omega) (by omega)) dX13_readSlot_16 (fun V45 _ _ e46 o47 hZ => ?_)
  have e46 : V45 (q + 12) = some (.inl (cs 1, 120, .inl (upd (g42) ((k : Int32).toNatClampNeg) (r23)))) := e46
  have hP := hP.put (hr_12 hR) e46 o47 (hq_c21 (by omega) (hq_upd hf44 (hq_rng _))) rfl
  refine lv_aload_n hx hb dX13_readSlot_17 rfl (lv_at hl 0 rfl) ?_
  refine va_ldcS (tx := (hp_so.getD 17 ("", 0, "")).2.2) (q := cs (100 + 17)) hx hb hown (hZ.2.2.2.2.2.2.2.2.2.2 17 (by decide)) dX13_readSlot_18 ?_
  have fx54 : V45 (mo) = some (.inr (13, hm_o q (m_tp) (m_sz) (z26) (z27) (z28) (z29) (z30) (m_le) (m_fo) (m_as) (m_fd) (m_bc) (m_bg) (m_bs) (m_be) (m_b0) (m_b1) (m_cm) (m_hc))) := (o47 (mo) (hq_tne h_mo (hr_12 hR) (by simp))).trans (ho31)
  refine hp_calli (hp_runV (As := [.ref (cs (100 + 17))]) (rest := []) hx hb hml hown hts (t_X13_is l D cs B G  V45 n hP.1 q hR (mo) h_mo 17 (by decide) fx54  (by omega) (by omega) (by omega) (by omega) (by omega) (by omega) (by omega) (by omega) (by assumption) ) hZ fx54 cv_X13_103 rfl rfl ⟨Nat.le_of_ble_eq_true rfl, Nat.le_of_ble_eq_true rfl⟩ rfl hl.1 rfl (Nat.le_of_ble_eq_true rfl) dX13_readSlot_20 ⟨(Nat.le_of_ble_eq_true rfl), (Nat.le_of_ble_eq_true rfl)⟩) hZ (fun r51 V48 n49 _ _ hw50 hZ => ?_)
  obtain ⟨rfl, hq52, ho55, hr53⟩ := hw50
  have hP := hP.trans hq52 (fun _ _ => rfl)
  have b56 := hq_rng r51
  refine lv_if_ne (tgt := 27) hx hb dX13_readSlot_23 (by decide) (fun c57 => ?_) (fun c57 => ?_)
  · have c57 : ¬ (r51).toInt = (0 : Int) := fun h9 => c57 (hq_eqi.mpr h9)
    refine lv_aload_n hx hb dX13_readSlot_27 rfl (lv_at hl 0 rfl) ?_
    refine hp_callv (hp_runV (As := []) (rest := []) hx hb hml hown hts (t_X13_scan l D cs B G  V48 n hP.1 q hR (mo) h_mo ho55  (by omega) (by omega) (by omega) (by omega) (by omega) (by omega) (by omega) (by omega) (hm_SC.s0 (by assumption)) (hm_SC.s1 (by assumption) (by first | omega | (have h8 := hm_Is.hd (by assumption) (by omega); omega)))) hZ ho55 cv_X13_111 rfl rfl ⟨Nat.le_of_ble_eq_true rfl, Nat.le_of_ble_eq_true rfl⟩ rfl hl.1 rfl (Nat.le_of_ble_eq_true rfl) dX13_readSlot_28 ⟨(Nat.le_of_ble_eq_true rfl), (Nat.le_of_ble_eq_true rfl)⟩) hZ (fun V58 n59 _ _ hw60 hZ => ?_)
    obtain ⟨rfl, hq62, ⟨z64, z65, z66, ho67, hi68, hi69, hi70⟩⟩ := hw60
    have hP := hP.trans hq62 (by intro g h; simp_all)
    have b71 := hq_rng z64
    have b72 := hq_rng z65
    have b73 := hq_rng z66
    refine lv_aload_n hx hb dX13_readSlot_31 rfl (lv_at hl 0 rfl) ?_
    refine hp_get (v := .ref (q + 13)) hx hb hts hown hZ ho67 fl_X13_38 rfl dX13_readSlot_32 ?_
    refine lv_iload_n hx hb dX13_readSlot_35 rfl (lv_at hl 1 rfl) ?_
    refine lv_aload_n hx hb dX13_readSlot_36 rfl (lv_at hl 0 rfl) ?_
    refine lv_iconst (v := 5) hx hb dX13_readSlot_37 (by decide) ?_
    have hl88 : (5 : Int32).toInt = 5 := by decide
    refine hq_callx (hq_runV (As := [.int (5)]) (rest := [.int (k), .ref (q + 13)]) hx hb hml hown hts (t_X13_digit l D cs B G  V58 n hP.1 q hR (mo) h_mo (5) ho67  (by omega) (by omega) (by omega) (by omega) (by omega) (by omega) (by omega) (by omega) (by assumption) ) hZ ho67 cv_X13_202 rfl rfl ⟨Nat.le_of_ble_eq_true rfl, Nat.le_of_ble_eq_true rfl⟩ rfl hl.1 rfl (Nat.le_of_ble_eq_true rfl) dX13_readSlot_38 ⟨(Nat.le_of_ble_eq_true rfl), (Nat.le_of_ble_eq_true rfl)⟩) hZ hnx hlocks (by rintro x9 V9 n9 ⟨rfl, rfl, hq9, ⟨z80x, z81x, z82x, z83x, z84x, hox0, hix00, hix01⟩⟩; have hbxz80 := hq_rng z80x; have hbxz81 := hq_rng z81x; have hbxz82 := hq_rng z82x; have hbxz83 := hq_rng z83x; have hbxz84 := hq_rng z84x; exact ⟨rfl, rfl, hP.trans hq9 (by intro g h; simp_all), ⟨z80x, z81x, z82x, z83x, z84x, hox0, by assumption, by omega⟩⟩) (fun v9 V74 n75 _ _ hw76 hZ => ?_)
    obtain ⟨r77, rfl, rfl, hq78, ⟨z80, z81, z82, z83, z84, ho85, hi86, hi87⟩, hr79⟩ := hw76
    refine W.eq (g2 := F0 m 41 ls [.int (r77), .int (k), .ref (q + 13)]) rfl ?_
    have hP := hP.trans hq78 (by intro g h; simp_all)
    have b89 := hq_rng z80
    have b90 := hq_rng z81
    have b91 := hq_rng z82
    have b92 := hq_rng z83
    have b93 := hq_rng z84
    have b94 := hq_rng r77
    obtain ⟨hN97, g96, eV95, hf98⟩ := hq_o21 hP.1 (hr_13 hR)
    refine hp_iast hx hb hZ eV95 (hq_in (by omega) (by omega)) dX13_readSlot_41 (fun V99 _ _ e100 o101 hZ => ?_)
    have e100 : V99 (q + 13) = some (.inl (cs 1, 120, .inl (upd (g96) ((k : Int32).toNatClampNeg) (r77)))) := e100
    have hP := hP.put (hr_13 hR) e100 o101 (hq_c21 (by omega) (hq_upd hf98 (hq_rng _))) rfl
    have fx102 : V99 (mo) = some (.inr (13, hm_o q (m_tp) (m_sz) (z80) (z81) (z82) (z83) (z84) (m_le) (m_fo) (m_as) (m_fd) (m_bc) (m_bg) (m_bs) (m_be) (m_b0) (m_b1) (m_cm) (m_hc))) := (o101 (mo) (hq_tne h_mo (hr_13 hR) (by simp))).trans (ho85)
    exact hq_vret hx hb hr hlocks hZ ⟨rfl, rfl, hP, ⟨z80, z81, z82, z83, z84, fx102, by assumption, by omega⟩⟩ dX13_readSlot_42
  · have c57 : (r51).toInt = (0 : Int) := hq_eqi.mp c57
    exact hq_vret hx hb hr hlocks hZ ⟨rfl, rfl, hP, ⟨z26, z27, z28, z29, z30, ho55, by assumption, by omega⟩⟩ dX13_readSlot_26

set_option maxHeartbeats 4000000 in
set_option maxRecDepth 100000 in
theorem t_X13_readCompound (l : Launch) (D : va_G) (cs : Nat → ClassId) (B : Nat) (G : hq_G) (V : hp_V) (n : Nat) (hI : hq_I cs G V) (q : Nat) (hR : hq_RT G q) (mo : Nat) (h_mo : G mo = some (24, 0, 0, 0)) (k : Int32) {m_tp m_sz m_fr m_bh m_hd m_ft m_fa m_le m_fo m_as m_fd m_bc m_bg m_bs m_be m_b0 m_b1 m_cm m_hc : Int32} (ho_mo : V mo = some (.inr (13, hm_o q (m_tp) (m_sz) (m_fr) (m_bh) (m_hd) (m_ft) (m_fa) (m_le) (m_fo) (m_as) (m_fd) (m_bc) (m_bg) (m_bs) (m_be) (m_b0) (m_b1) (m_cm) (m_hc)))) (hi_mo0 : 0 ≤ m_tp.toInt ∧ m_tp.toInt ≤ 4000) (hi_mo1 : 0 ≤ m_sz.toInt ∧ m_sz.toInt ≤ 4000) (hi_mo2 : 0 ≤ m_le.toInt ∧ m_le.toInt ≤ 276) (hi_mo3 : 0 ≤ m_fo.toInt ∧ m_fo.toInt ≤ 4) (hi_mo4 : 0 ≤ m_as.toInt ∧ m_as.toInt ≤ 4000) (hi_mo5 : 0 ≤ m_fd.toInt ∧ m_fd.toInt ≤ 900) (hi_mo6 : 0 ≤ m_cm.toInt ∧ m_cm.toInt ≤ 2) (hi_mo7 : 0 ≤ m_hc.toInt ∧ m_hc.toInt ≤ 1) (hi_mo8 : hm_SC m_sz m_fr m_bh m_hd) (hl0 : 0 ≤ k.toInt) (hl1 : k.toInt < 120) : hq_M l yX13_readCompound cX13_readCompound 2 none ({ frames := 9, cells := 0, slots := 0, locals := 191 }) D cs B V n [.ref (mo), .int (k)] (hq_QX D cs B (fun v V' n' => v = none ∧ n = n' ∧ hq_P cs G (fun g => g.1 == 1 || g.1 == 41) V V' ∧ (∃ (m_fr1 : Int32) (m_bh1 : Int32) (m_hd1 : Int32) (m_ft1 : Int32) (m_fa1 : Int32), V' mo = some (.inr (13, hm_o q (m_tp) (m_sz) (m_fr1) (m_bh1) (m_hd1) (m_ft1) (m_fa1) (m_le) (m_fo) (m_as) (m_fd) (m_bc) (m_bg) (m_bs) (m_be) (m_b0) (m_b1) (m_cm) (m_hc))) ∧ (hm_SC m_sz m_fr1 m_bh1 m_hd1) ∧ (m_bh.toInt ≤ m_bh1.toInt))) (fun x V' n' => x = q + 19 ∧ n = n' ∧ hq_P cs G (fun g => g.1 == 1 || g.1 == 41) V V' ∧ (∃ (m_fr1 : Int32) (m_bh1 : Int32) (m_hd1 : Int32) (m_ft1 : Int32) (m_fa1 : Int32), V' mo = some (.inr (13, hm_o q (m_tp) (m_sz) (m_fr1) (m_bh1) (m_hd1) (m_ft1) (m_fa1) (m_le) (m_fo) (m_as) (m_fd) (m_bc) (m_bg) (m_bs) (m_be) (m_b0) (m_b1) (m_cm) (m_hc))) ∧ (hm_SC m_sz m_fr1 m_bh1 m_hd1) ∧ (m_bh.toInt ≤ m_bh1.toInt)))) 0 0 := by
  refine hq_walk (R0 := RX13) (by decide) rfl ?_ (Nat.le_of_ble_eq_true rfl)
  intro p e s m below meth c ls hx hb hr hts hown hlocks hin hml hnx hZ hl
  have hP : hq_P cs G (fun g => g.1 == 1 || g.1 == 41) V V := hq_P.rf hI
  have hl : lv_has ls 2 [(0, .ref (mo)), (1, .int (k))] := hl
  have hb_k := hq_rng k
  have hb_m_tp := hq_rng m_tp
  have hb_m_sz := hq_rng m_sz
  have hb_m_fr := hq_rng m_fr
  have hb_m_bh := hq_rng m_bh
  have hb_m_hd := hq_rng m_hd
  have hb_m_ft := hq_rng m_ft
  have hb_m_fa := hq_rng m_fa
  have hb_m_le := hq_rng m_le
  have hb_m_fo := hq_rng m_fo
  have hb_m_as := hq_rng m_as
  have hb_m_fd := hq_rng m_fd
  have hb_m_bc := hq_rng m_bc
  have hb_m_bg := hq_rng m_bg
  have hb_m_bs := hq_rng m_bs
  have hb_m_be := hq_rng m_be
  have hb_m_b0 := hq_rng m_b0
  have hb_m_b1 := hq_rng m_b1
  have hb_m_cm := hq_rng m_cm
  have hb_m_hc := hq_rng m_hc
  refine lv_aload_n hx hb dX13_readCompound_0 rfl (lv_at hl 0 rfl) ?_
  refine va_ldcS (tx := (hp_so.getD 10 ("", 0, "")).2.2) (q := cs (100 + 10)) hx hb hown (hZ.2.2.2.2.2.2.2.2.2.2 10 (by decide)) dX13_readCompound_1 ?_
  refine hq_callx (hq_runV (As := [.ref (cs (100 + 10))]) (rest := []) hx hb hml hown hts (t_X13_need l D cs B G  V n hP.1 q hR (mo) h_mo 10 (by decide) ho_mo  (by omega) (by omega) (by omega) (by omega) (by omega) (by omega) (by omega) (by omega) (by assumption) ) hZ ho_mo cv_X13_172 rfl rfl ⟨Nat.le_of_ble_eq_true rfl, Nat.le_of_ble_eq_true rfl⟩ rfl hl.1 rfl (Nat.le_of_ble_eq_true rfl) dX13_readCompound_3 ⟨(Nat.le_of_ble_eq_true rfl), (Nat.le_of_ble_eq_true rfl)⟩) hZ hnx hlocks (by rintro x9 V9 n9 ⟨rfl, rfl, hq9, ⟨z7x, z8x, z9x, z10x, z11x, hox0, hix00, hix01⟩⟩; have hbxz7 := hq_rng z7x; have hbxz8 := hq_rng z8x; have hbxz9 := hq_rng z9x; have hbxz10 := hq_rng z10x; have hbxz11 := hq_rng z11x; exact ⟨rfl, rfl, hP.trans hq9 (by intro g h; simp_all), ⟨z7x, z8x, z9x, z10x, z11x, hox0, by assumption, by omega⟩⟩) (fun v9 V1 n2 _ _ hw3 hZ => ?_)
  obtain ⟨rfl, rfl, hq5, ⟨z7, z8, z9, z10, z11, ho12, hi13, hi14⟩⟩ := hw3
  refine W.eq (g2 := F0 m 6 ls []) rfl ?_
  have hP := hP.trans hq5 (by intro g h; simp_all)
  have b15 := hq_rng z7
  have b16 := hq_rng z8
  have b17 := hq_rng z9
  have b18 := hq_rng z10
  have b19 := hq_rng z11
  refine lv_aload_n hx hb dX13_readCompound_6 rfl (lv_at hl 0 rfl) ?_
  refine hp_get (v := .ref (q + 12)) hx hb hts hown hZ ho12 fl_X13_35 rfl dX13_readCompound_7 ?_
  refine lv_iload_n hx hb dX13_readCompound_10 rfl (lv_at hl 1 rfl) ?_
  refine lv_aload_n hx hb dX13_readCompound_11 rfl (lv_at hl 0 rfl) ?_
  refine lv_iconst (v := 4) hx hb dX13_readCompound_12 (by decide) ?_
  have hl34 : (4 : Int32).toInt = 4 := by decide
  refine hq_callx (hq_runV (As := [.int (4)]) (rest := [.int (k), .ref (q + 12)]) hx hb hml hown hts (t_X13_digit l D cs B G  V1 n hP.1 q hR (mo) h_mo (4) ho12  (by omega) (by omega) (by omega) (by omega) (by omega) (by omega) (by omega) (by omega) (by assumption) ) hZ ho12 cv_X13_202 rfl rfl ⟨Nat.le_of_ble_eq_true rfl, Nat.le_of_ble_eq_true rfl⟩ rfl hl.1 rfl (Nat.le_of_ble_eq_true rfl) dX13_readCompound_13 ⟨(Nat.le_of_ble_eq_true rfl), (Nat.le_of_ble_eq_true rfl)⟩) hZ hnx hlocks (by rintro x9 V9 n9 ⟨rfl, rfl, hq9, ⟨z26x, z27x, z28x, z29x, z30x, hox0, hix00, hix01⟩⟩; have hbxz26 := hq_rng z26x; have hbxz27 := hq_rng z27x; have hbxz28 := hq_rng z28x; have hbxz29 := hq_rng z29x; have hbxz30 := hq_rng z30x; exact ⟨rfl, rfl, hP.trans hq9 (by intro g h; simp_all), ⟨z26x, z27x, z28x, z29x, z30x, hox0, by assumption, by omega⟩⟩) (fun v9 V20 n21 _ _ hw22 hZ => ?_)
  obtain ⟨r23, rfl, rfl, hq24, ⟨z26, z27, z28, z29, z30, ho31, hi32, hi33⟩, hr25⟩ := hw22
  refine W.eq (g2 := F0 m 16 ls [.int (r23), .int (k), .ref (q + 12)]) rfl ?_
  have hP := hP.trans hq24 (by intro g h; simp_all)
  have b35 := hq_rng z26
  have b36 := hq_rng z27
  have b37 := hq_rng z28
  have b38 := hq_rng z29
  have b39 := hq_rng z30
  have b40 := hq_rng r23
  obtain ⟨hN43, g42, eV41, hf44⟩ := hq_o21 hP.1 (hr_12 hR)
  refine hp_iast hx hb hZ eV41 (hq_in (by omega) (by omega)) dX13_readCompound_16 (fun V45 _ _ e46 o47 hZ => ?_)
  have e46 : V45 (q + 12) = some (.inl (cs 1, 120, .inl (upd (g42) ((k : Int32).toNatClampNeg) (r23)))) := e46
  have hP := hP.put (hr_12 hR) e46 o47 (hq_c21 (by omega) (hq_upd hf44 (hq_rng _))) rfl
  refine lv_aload_n hx hb dX13_readCompound_17 rfl (lv_at hl 0 rfl) ?_
  refine va_ldcS (tx := (hp_so.getD 11 ("", 0, "")).2.2) (q := cs (100 + 11)) hx hb hown (hZ.2.2.2.2.2.2.2.2.2.2 11 (by decide)) dX13_readCompound_18 ?_
  have fx54 : V45 (mo) = some (.inr (13, hm_o q (m_tp) (m_sz) (z26) (z27) (z28) (z29) (z30) (m_le) (m_fo) (m_as) (m_fd) (m_bc) (m_bg) (m_bs) (m_be) (m_b0) (m_b1) (m_cm) (m_hc))) := (o47 (mo) (hq_tne h_mo (hr_12 hR) (by simp))).trans (ho31)
  refine hq_callx (hq_runV (As := [.ref (cs (100 + 11))]) (rest := []) hx hb hml hown hts (t_X13_need l D cs B G  V45 n hP.1 q hR (mo) h_mo 11 (by decide) fx54  (by omega) (by omega) (by omega) (by omega) (by omega) (by omega) (by omega) (by omega) (by assumption) ) hZ fx54 cv_X13_172 rfl rfl ⟨Nat.le_of_ble_eq_true rfl, Nat.le_of_ble_eq_true rfl⟩ rfl hl.1 rfl (Nat.le_of_ble_eq_true rfl) dX13_readCompound_20 ⟨(Nat.le_of_ble_eq_true rfl), (Nat.le_of_ble_eq_true rfl)⟩) hZ hnx hlocks (by rintro x9 V9 n9 ⟨rfl, rfl, hq9, ⟨z55x, z56x, z57x, z58x, z59x, hox0, hix00, hix01⟩⟩; have hbxz55 := hq_rng z55x; have hbxz56 := hq_rng z56x; have hbxz57 := hq_rng z57x; have hbxz58 := hq_rng z58x; have hbxz59 := hq_rng z59x; exact ⟨rfl, rfl, hP.trans hq9 (by intro g h; simp_all), ⟨z55x, z56x, z57x, z58x, z59x, hox0, by assumption, by omega⟩⟩) (fun v9 V48 n49 _ _ hw50 hZ => ?_)
  obtain ⟨rfl, rfl, hq52, ⟨z55, z56, z57, z58, z59, ho60, hi61, hi62⟩⟩ := hw50
  refine W.eq (g2 := F0 m 23 ls []) rfl ?_
  have hP := hP.trans hq52 (by intro g h; simp_all)
  have b63 := hq_rng z55
  have b64 := hq_rng z56
  have b65 := hq_rng z57
  have b66 := hq_rng z58
  have b67 := hq_rng z59
  refine lv_aload_n hx hb dX13_readCompound_23 rfl (lv_at hl 0 rfl) ?_
  refine hp_get (v := .ref (q + 16)) hx hb hts hown hZ ho60 fl_X13_47 rfl dX13_readCompound_24 ?_
  refine lv_iload_n hx hb dX13_readCompound_27 rfl (lv_at hl 1 rfl) ?_
  refine lv_aload_n hx hb dX13_readCompound_28 rfl (lv_at hl 0 rfl) ?_
  refine hq_callx (hq_runV (As := []) (rest := [.int (k), .ref (q + 16)]) hx hb hml hown hts (t_X13_takeVerb l D cs B G  V48 n hP.1 q hR (mo) h_mo ho60  (by omega) (by omega) (by omega) (by omega) (by omega) (by omega) (by omega) (by omega) (by assumption) ) hZ ho60 cv_X13_182 rfl rfl ⟨Nat.le_of_ble_eq_true rfl, Nat.le_of_ble_eq_true rfl⟩ rfl hl.1 rfl (Nat.le_of_ble_eq_true rfl) dX13_readCompound_29 ⟨(Nat.le_of_ble_eq_true rfl), (Nat.le_of_ble_eq_true rfl)⟩) hZ hnx hlocks (by rintro x9 V9 n9 ⟨rfl, rfl, hq9, ⟨z74x, z75x, z76x, z77x, z78x, hox0, hix00, hix01⟩⟩; have hbxz74 := hq_rng z74x; have hbxz75 := hq_rng z75x; have hbxz76 := hq_rng z76x; have hbxz77 := hq_rng z77x; have hbxz78 := hq_rng z78x; exact ⟨rfl, rfl, hP.trans hq9 (by intro g h; simp_all), ⟨z74x, z75x, z76x, z77x, z78x, hox0, by assumption, by omega⟩⟩) (fun v9 V68 n69 _ _ hw70 hZ => ?_)
  obtain ⟨r71, rfl, rfl, hq72, ⟨z74, z75, z76, z77, z78, ho79, hi80, hi81⟩, hr73⟩ := hw70
  refine W.eq (g2 := F0 m 32 ls [.int (r71), .int (k), .ref (q + 16)]) rfl ?_
  have hP := hP.trans hq72 (by intro g h; simp_all)
  have b82 := hq_rng z74
  have b83 := hq_rng z75
  have b84 := hq_rng z76
  have b85 := hq_rng z77
  have b86 := hq_rng z78
  have b87 := hq_rng r71
  obtain ⟨hN90, g89, eV88, hf91⟩ := hq_o21 hP.1 (hr_16 hR)
  refine hp_iast hx hb hZ eV88 (hq_in (by omega) (by omega)) dX13_readCompound_32 (fun V92 _ _ e93 o94 hZ => ?_)
  have e93 : V92 (q + 16) = some (.inl (cs 1, 120, .inl (upd (g89) ((k : Int32).toNatClampNeg) (r71)))) := e93
  have hP := hP.put (hr_16 hR) e93 o94 (hq_c21 (by omega) (hq_upd hf91 (show 0 ≤ _ ∧ _ ≤ 29 by constructor <;> omega))) rfl
  refine lv_aload_n hx hb dX13_readCompound_33 rfl (lv_at hl 0 rfl) ?_
  refine va_ldcS (tx := (hp_so.getD 10 ("", 0, "")).2.2) (q := cs (100 + 10)) hx hb hown (hZ.2.2.2.2.2.2.2.2.2.2 10 (by decide)) dX13_readCompound_34 ?_
  have fx101 : V92 (mo) = some (.inr (13, hm_o q (m_tp) (m_sz) (z74) (z75) (z76) (z77) (z78) (m_le) (m_fo) (m_as) (m_fd) (m_bc) (m_bg) (m_bs) (m_be) (m_b0) (m_b1) (m_cm) (m_hc))) := (o94 (mo) (hq_tne h_mo (hr_16 hR) (by simp))).trans (ho79)
  refine hq_callx (hq_runV (As := [.ref (cs (100 + 10))]) (rest := []) hx hb hml hown hts (t_X13_need l D cs B G  V92 n hP.1 q hR (mo) h_mo 10 (by decide) fx101  (by omega) (by omega) (by omega) (by omega) (by omega) (by omega) (by omega) (by omega) (by assumption) ) hZ fx101 cv_X13_172 rfl rfl ⟨Nat.le_of_ble_eq_true rfl, Nat.le_of_ble_eq_true rfl⟩ rfl hl.1 rfl (Nat.le_of_ble_eq_true rfl) dX13_readCompound_36 ⟨(Nat.le_of_ble_eq_true rfl), (Nat.le_of_ble_eq_true rfl)⟩) hZ hnx hlocks (by rintro x9 V9 n9 ⟨rfl, rfl, hq9, ⟨z102x, z103x, z104x, z105x, z106x, hox0, hix00, hix01⟩⟩; have hbxz102 := hq_rng z102x; have hbxz103 := hq_rng z103x; have hbxz104 := hq_rng z104x; have hbxz105 := hq_rng z105x; have hbxz106 := hq_rng z106x; exact ⟨rfl, rfl, hP.trans hq9 (by intro g h; simp_all), ⟨z102x, z103x, z104x, z105x, z106x, hox0, by assumption, by omega⟩⟩) (fun v9 V95 n96 _ _ hw97 hZ => ?_)
  obtain ⟨rfl, rfl, hq99, ⟨z102, z103, z104, z105, z106, ho107, hi108, hi109⟩⟩ := hw97
  refine W.eq (g2 := F0 m 39 ls []) rfl ?_
  have hP := hP.trans hq99 (by intro g h; simp_all)
  have b110 := hq_rng z102
  have b111 := hq_rng z103
  have b112 := hq_rng z104
  have b113 := hq_rng z105
  have b114 := hq_rng z106
  refine lv_aload_n hx hb dX13_readCompound_39 rfl (lv_at hl 0 rfl) ?_
  refine hp_get (v := .ref (q + 17)) hx hb hts hown hZ ho107 fl_X13_50 rfl dX13_readCompound_40 ?_
  refine lv_iload_n hx hb dX13_readCompound_43 rfl (lv_at hl 1 rfl) ?_
  refine lv_aload_n hx hb dX13_readCompound_44 rfl (lv_at hl 0 rfl) ?_
  refine lv_iconst (v := 4) hx hb dX13_readCompound_45 (by decide) ?_
  have hl129 : (4 : Int32).toInt = 4 := by decide
  refine hq_callx (hq_runV (As := [.int (4)]) (rest := [.int (k), .ref (q + 17)]) hx hb hml hown hts (t_X13_digit l D cs B G  V95 n hP.1 q hR (mo) h_mo (4) ho107  (by omega) (by omega) (by omega) (by omega) (by omega) (by omega) (by omega) (by omega) (by assumption) ) hZ ho107 cv_X13_202 rfl rfl ⟨Nat.le_of_ble_eq_true rfl, Nat.le_of_ble_eq_true rfl⟩ rfl hl.1 rfl (Nat.le_of_ble_eq_true rfl) dX13_readCompound_46 ⟨(Nat.le_of_ble_eq_true rfl), (Nat.le_of_ble_eq_true rfl)⟩) hZ hnx hlocks (by rintro x9 V9 n9 ⟨rfl, rfl, hq9, ⟨z121x, z122x, z123x, z124x, z125x, hox0, hix00, hix01⟩⟩; have hbxz121 := hq_rng z121x; have hbxz122 := hq_rng z122x; have hbxz123 := hq_rng z123x; have hbxz124 := hq_rng z124x; have hbxz125 := hq_rng z125x; exact ⟨rfl, rfl, hP.trans hq9 (by intro g h; simp_all), ⟨z121x, z122x, z123x, z124x, z125x, hox0, by assumption, by omega⟩⟩) (fun v9 V115 n116 _ _ hw117 hZ => ?_)
  obtain ⟨r118, rfl, rfl, hq119, ⟨z121, z122, z123, z124, z125, ho126, hi127, hi128⟩, hr120⟩ := hw117
  refine W.eq (g2 := F0 m 49 ls [.int (r118), .int (k), .ref (q + 17)]) rfl ?_
  have hP := hP.trans hq119 (by intro g h; simp_all)
  have b130 := hq_rng z121
  have b131 := hq_rng z122
  have b132 := hq_rng z123
  have b133 := hq_rng z124
  have b134 := hq_rng z125
  have b135 := hq_rng r118
  obtain ⟨hN138, g137, eV136, hf139⟩ := hq_o21 hP.1 (hr_17 hR)
  refine hp_iast hx hb hZ eV136 (hq_in (by omega) (by omega)) dX13_readCompound_49 (fun V140 _ _ e141 o142 hZ => ?_)
  have e141 : V140 (q + 17) = some (.inl (cs 1, 120, .inl (upd (g137) ((k : Int32).toNatClampNeg) (r118)))) := e141
  have hP := hP.put (hr_17 hR) e141 o142 (hq_c21 (by omega) (hq_upd hf139 (hq_rng _))) rfl
  refine lv_aload_n hx hb dX13_readCompound_50 rfl (lv_at hl 0 rfl) ?_
  refine va_ldcS (tx := (hp_so.getD 12 ("", 0, "")).2.2) (q := cs (100 + 12)) hx hb hown (hZ.2.2.2.2.2.2.2.2.2.2 12 (by decide)) dX13_readCompound_51 ?_
  have fx149 : V140 (mo) = some (.inr (13, hm_o q (m_tp) (m_sz) (z121) (z122) (z123) (z124) (z125) (m_le) (m_fo) (m_as) (m_fd) (m_bc) (m_bg) (m_bs) (m_be) (m_b0) (m_b1) (m_cm) (m_hc))) := (o142 (mo) (hq_tne h_mo (hr_17 hR) (by simp))).trans (ho126)
  refine hq_callx (hq_runV (As := [.ref (cs (100 + 12))]) (rest := []) hx hb hml hown hts (t_X13_need l D cs B G  V140 n hP.1 q hR (mo) h_mo 12 (by decide) fx149  (by omega) (by omega) (by omega) (by omega) (by omega) (by omega) (by omega) (by omega) (by assumption) ) hZ fx149 cv_X13_172 rfl rfl ⟨Nat.le_of_ble_eq_true rfl, Nat.le_of_ble_eq_true rfl⟩ rfl hl.1 rfl (Nat.le_of_ble_eq_true rfl) dX13_readCompound_53 ⟨(Nat.le_of_ble_eq_true rfl), (Nat.le_of_ble_eq_true rfl)⟩) hZ hnx hlocks (by rintro x9 V9 n9 ⟨rfl, rfl, hq9, ⟨z150x, z151x, z152x, z153x, z154x, hox0, hix00, hix01⟩⟩; have hbxz150 := hq_rng z150x; have hbxz151 := hq_rng z151x; have hbxz152 := hq_rng z152x; have hbxz153 := hq_rng z153x; have hbxz154 := hq_rng z154x; exact ⟨rfl, rfl, hP.trans hq9 (by intro g h; simp_all), ⟨z150x, z151x, z152x, z153x, z154x, hox0, by assumption, by omega⟩⟩) (fun v9 V143 n144 _ _ hw145 hZ => ?_)
  obtain ⟨rfl, rfl, hq147, ⟨z150, z151, z152, z153, z154, ho155, hi156, hi157⟩⟩ := hw145
  refine W.eq (g2 := F0 m 56 ls []) rfl ?_
  have hP := hP.trans hq147 (by intro g h; simp_all)
  have b158 := hq_rng z150
  have b159 := hq_rng z151
  have b160 := hq_rng z152
  have b161 := hq_rng z153
  have b162 := hq_rng z154
  refine lv_aload_n hx hb dX13_readCompound_56 rfl (lv_at hl 0 rfl) ?_
  refine hp_get (v := .ref (q + 18)) hx hb hts hown hZ ho155 fl_X13_53 rfl dX13_readCompound_57 ?_
  refine lv_iload_n hx hb dX13_readCompound_60 rfl (lv_at hl 1 rfl) ?_
  refine lv_aload_n hx hb dX13_readCompound_61 rfl (lv_at hl 0 rfl) ?_
  refine lv_iconst (v := 4) hx hb dX13_readCompound_62 (by decide) ?_
  have hl177 : (4 : Int32).toInt = 4 := by decide
  refine hq_callx (hq_runV (As := [.int (4)]) (rest := [.int (k), .ref (q + 18)]) hx hb hml hown hts (t_X13_digit l D cs B G  V143 n hP.1 q hR (mo) h_mo (4) ho155  (by omega) (by omega) (by omega) (by omega) (by omega) (by omega) (by omega) (by omega) (by assumption) ) hZ ho155 cv_X13_202 rfl rfl ⟨Nat.le_of_ble_eq_true rfl, Nat.le_of_ble_eq_true rfl⟩ rfl hl.1 rfl (Nat.le_of_ble_eq_true rfl) dX13_readCompound_63 ⟨(Nat.le_of_ble_eq_true rfl), (Nat.le_of_ble_eq_true rfl)⟩) hZ hnx hlocks (by rintro x9 V9 n9 ⟨rfl, rfl, hq9, ⟨z169x, z170x, z171x, z172x, z173x, hox0, hix00, hix01⟩⟩; have hbxz169 := hq_rng z169x; have hbxz170 := hq_rng z170x; have hbxz171 := hq_rng z171x; have hbxz172 := hq_rng z172x; have hbxz173 := hq_rng z173x; exact ⟨rfl, rfl, hP.trans hq9 (by intro g h; simp_all), ⟨z169x, z170x, z171x, z172x, z173x, hox0, by assumption, by omega⟩⟩) (fun v9 V163 n164 _ _ hw165 hZ => ?_)
  obtain ⟨r166, rfl, rfl, hq167, ⟨z169, z170, z171, z172, z173, ho174, hi175, hi176⟩, hr168⟩ := hw165
  refine W.eq (g2 := F0 m 66 ls [.int (r166), .int (k), .ref (q + 18)]) rfl ?_
  have hP := hP.trans hq167 (by intro g h; simp_all)
  have b178 := hq_rng z169
  have b179 := hq_rng z170
  have b180 := hq_rng z171
  have b181 := hq_rng z172
  have b182 := hq_rng z173
  have b183 := hq_rng r166
  obtain ⟨hN186, g185, eV184, hf187⟩ := hq_o21 hP.1 (hr_18 hR)
  refine hp_iast hx hb hZ eV184 (hq_in (by omega) (by omega)) dX13_readCompound_66 (fun V188 _ _ e189 o190 hZ => ?_)
  have e189 : V188 (q + 18) = some (.inl (cs 1, 120, .inl (upd (g185) ((k : Int32).toNatClampNeg) (r166)))) := e189
  have hP := hP.put (hr_18 hR) e189 o190 (hq_c21 (by omega) (hq_upd hf187 (hq_rng _))) rfl
  have fx191 : V188 (mo) = some (.inr (13, hm_o q (m_tp) (m_sz) (z169) (z170) (z171) (z172) (z173) (m_le) (m_fo) (m_as) (m_fd) (m_bc) (m_bg) (m_bs) (m_be) (m_b0) (m_b1) (m_cm) (m_hc))) := (o190 (mo) (hq_tne h_mo (hr_18 hR) (by simp))).trans (ho174)
  exact hq_vret hx hb hr hlocks hZ ⟨rfl, rfl, hP, ⟨z169, z170, z171, z172, z173, fx191, by assumption, by omega⟩⟩ dX13_readCompound_67

set_option maxHeartbeats 4000000 in
set_option maxRecDepth 100000 in
theorem t_X13_alike (l : Launch) (D : va_G) (cs : Nat → ClassId) (B : Nat) (G : hq_G) (V : hp_V) (n : Nat) (hI : hq_I cs G V) (q : Nat) (hR : hq_RT G q) (mo : Nat) (h_mo : G mo = some (24, 0, 0, 0)) (k : Int32) {m_tp m_sz m_fr m_bh m_hd m_ft m_fa m_le m_fo m_as m_fd m_bc m_bg m_bs m_be m_b0 m_b1 m_cm m_hc : Int32} (ho_mo : V mo = some (.inr (13, hm_o q (m_tp) (m_sz) (m_fr) (m_bh) (m_hd) (m_ft) (m_fa) (m_le) (m_fo) (m_as) (m_fd) (m_bc) (m_bg) (m_bs) (m_be) (m_b0) (m_b1) (m_cm) (m_hc)))) (hi_mo0 : 0 ≤ m_tp.toInt ∧ m_tp.toInt ≤ 4000) (hi_mo1 : 0 ≤ m_sz.toInt ∧ m_sz.toInt ≤ 4000) (hi_mo2 : 0 ≤ m_le.toInt ∧ m_le.toInt ≤ 276) (hi_mo3 : 0 ≤ m_fo.toInt ∧ m_fo.toInt ≤ 4) (hi_mo4 : 0 ≤ m_as.toInt ∧ m_as.toInt ≤ 4000) (hi_mo5 : 0 ≤ m_fd.toInt ∧ m_fd.toInt ≤ 900) (hi_mo6 : 0 ≤ m_cm.toInt ∧ m_cm.toInt ≤ 2) (hi_mo7 : 0 ≤ m_hc.toInt ∧ m_hc.toInt ≤ 1) (hi_mo8 : hm_SC m_sz m_fr m_bh m_hd) (hl0 : 0 ≤ k.toInt) (hl1 : k.toInt < 120) : hp_M l yX13_alike cX13_alike 4 (some .int) ({ frames := 1, cells := 0, slots := 0, locals := 21 }) D cs B V n [.ref (mo), .int (k)] (hp_QI D cs B (fun r V' n' => n = n' ∧ hq_P cs G (fun _ => false) V V' ∧ (V' mo = some (.inr (13, hm_o q (m_tp) (m_sz) (m_fr) (m_bh) (m_hd) (m_ft) (m_fa) (m_le) (m_fo) (m_as) (m_fd) (m_bc) (m_bg) (m_bs) (m_be) (m_b0) (m_b1) (m_cm) (m_hc)))) ∧ True)) 0 0 := by
  refine hp_walk (R0 := RX13) (by decide) rfl ?_ (Nat.le_of_ble_eq_true rfl)
  intro p e s m below meth c ls hx hb hr hts hown hlocks hin hml hZ hl
  have hP : hq_P cs G (fun _ => false) V V := hq_P.rf hI
  have hl : lv_has ls 4 [(0, .ref (mo)), (1, .int (k))] := hl
  have hb_k := hq_rng k
  have hb_m_tp := hq_rng m_tp
  have hb_m_sz := hq_rng m_sz
  have hb_m_fr := hq_rng m_fr
  have hb_m_bh := hq_rng m_bh
  have hb_m_hd := hq_rng m_hd
  have hb_m_ft := hq_rng m_ft
  have hb_m_fa := hq_rng m_fa
  have hb_m_le := hq_rng m_le
  have hb_m_fo := hq_rng m_fo
  have hb_m_as := hq_rng m_as
  have hb_m_fd := hq_rng m_fd
  have hb_m_bc := hq_rng m_bc
  have hb_m_bg := hq_rng m_bg
  have hb_m_bs := hq_rng m_bs
  have hb_m_be := hq_rng m_be
  have hb_m_b0 := hq_rng m_b0
  have hb_m_b1 := hq_rng m_b1
  have hb_m_cm := hq_rng m_cm
  have hb_m_hc := hq_rng m_hc
  refine lv_iconst (v := 0) hx hb dX13_alike_0 (by decide) ?_
  refine lv_istore_n (lv' := [(2, .int (0)), (0, .ref (mo)), (1, .int (k))]) hx hb dX13_alike_1 rfl hl (by decide) rfl (fun ls hl => ?_)
  refine lv_bipush (v := 60) hx hb dX13_alike_2 (by decide) ?_
  refine lv_istore_n (lv' := [(3, .int (60)), (2, .int (0)), (0, .ref (mo)), (1, .int (k))]) hx hb dX13_alike_4 rfl hl (by decide) rfl (fun ls hl => ?_)
  have hl1 : (0 : Int32).toInt = 0 := by decide
  have hl2 : (60 : Int32).toInt = 60 := by decide
  suffices lp5 : ∀ (k9 : Nat) (V9 : hp_V) (H9 : Heap) (locs9 : List Loc) (ls : Array Slot) (no : Int32) (i : Int32), (200 - i.toInt).toNat = k9 → hp_Z D cs B s V9 H9 n locs9 → hq_P cs G (fun _ => false) V V9 → 60 ≤ i.toInt → i.toInt ≤ 121 → lv_has ls 4 [(3, .int (i)), (2, .int (no)), (0, .ref (mo)), (1, .int (k))] → W p l e ({ frames := 1, cells := 0, slots := 0, locals := 21 }) s m ([.ref (mo), .int (k)] : List Value).toArray below meth c H9 locs9 0 0 (MQ below (hp_QI D cs B (fun r V' n' => n = n' ∧ hq_P cs G (fun _ => false) V V' ∧ (V' mo = some (.inr (13, hm_o q (m_tp) (m_sz) (m_fr) (m_bh) (m_hd) (m_ft) (m_fa) (m_le) (m_fo) (m_as) (m_fd) (m_bc) (m_bg) (m_bs) (m_be) (m_b0) (m_b1) (m_cm) (m_hc)))) ∧ True)) ([.ref (mo), .int (k)] : List Value).toArray s 0 0 (hp_F B)) (F0 m 5 ls []) from lp5 _ _ _ _ ls (0) (60) rfl hZ hP (by omega) (by omega) (lv_sub hl [0, 1, 2, 3] rfl)
  intro k9
  induction k9 using Nat.strongRecOn with
  | _ k9 ih5 =>
    intro V9 H9 locs9 ls no i  hk5 hZ hP  hv3 hv4 hl
    have hb_no := hq_rng no
    have hb_i := hq_rng i
    have hP_5 := hP
    refine lv_iload_n hx hb dX13_alike_5 rfl (lv_at hl 0 rfl) ?_
    refine lv_iload_n hx hb dX13_alike_6 rfl (lv_at hl 3 rfl) ?_
    refine lv_icmp_ge (tgt := 79) hx hb dX13_alike_7 (by decide) (fun c5 => ?_) (fun c5 => ?_)
    · have c5 : (k).toInt ≤ (i).toInt := hq_lei.mp c5
      refine lv_iload_n hx hb dX13_alike_79 rfl (lv_at hl 1 rfl) ?_
      have fx6 : V9 (mo) = some (.inr (13, hm_o q (m_tp) (m_sz) (m_fr) (m_bh) (m_hd) (m_ft) (m_fa) (m_le) (m_fo) (m_as) (m_fd) (m_bc) (m_bg) (m_bs) (m_be) (m_b0) (m_b1) (m_cm) (m_hc))) := (hP_5.2 (mo) _ h_mo rfl).trans (ho_mo)
      exact hp_iret hx hb hr hlocks hZ ⟨rfl, hP, fx6, trivial⟩ dX13_alike_80
    · have c5 : ¬ (k).toInt ≤ (i).toInt := fun h9 => c5 (hq_lei.mpr h9)
      refine lv_iload_n hx hb dX13_alike_10 rfl (lv_at hl 1 rfl) ?_
      refine hq_join (P := fun y => True) (f := fun y => F0 m 71 ls (.int y :: [.int (no)])) (fun y7 hy8 => ?_) (fun jn71 => ?_)
      · have hy8 : True := hy8
        have b9 := hq_rng y7
        refine lv_iadd hx hb dX13_alike_71 ?_
        refine lv_topi (fun y10 ey11 => ?_)
        obtain ⟨k12, hk13, b14, b15⟩ := hq_add (no) (y7)
        rw [← ey11] at hk13 b14 b15
        have hk13 : (y10).toInt = (no).toInt + (y7).toInt + k12 * 4294967296 := hk13
        refine lv_istore_n (lv' := [(2, .int (y10)), (3, .int (i)), (0, .ref (mo)), (1, .int (k))]) hx hb dX13_alike_72 rfl hl (by decide) rfl (fun ls hl => ?_)
        obtain ⟨y16, ey17⟩ : ∃ y : Int32, y = i + (1) := ⟨_, rfl⟩
        obtain ⟨k18, hk19, b20, b21⟩ := hq_add (i) (1)
        rw [← ey17] at hk19 b20 b21
        have hk19 : (y16).toInt = (i).toInt + (1) + k18 * 4294967296 := hk19
        refine lv_iinc (v := y16) (lv' := [(3, .int (y16)), (2, .int (y10)), (0, .ref (mo)), (1, .int (k))]) hx hb dX13_alike_73 hl (k := 1) rfl (by rw [ey17]; rfl) (by decide) rfl (fun ls hl => ?_)
        refine lv_goto (tgt := 5) hx hb dX13_alike_76 (by decide) ?_
        exact ih5 _ (by omega) _ _ _ ls (y10) (y16) rfl hZ hP (by omega) (by omega) (lv_sub hl [0, 1, 2, 3] rfl)
      ·
        refine lv_aload_n hx hb dX13_alike_11 rfl (lv_at hl 2 rfl) ?_
        have fx22 : V9 (mo) = some (.inr (13, hm_o q (m_tp) (m_sz) (m_fr) (m_bh) (m_hd) (m_ft) (m_fa) (m_le) (m_fo) (m_as) (m_fd) (m_bc) (m_bg) (m_bs) (m_be) (m_b0) (m_b1) (m_cm) (m_hc))) := (hP_5.2 (mo) _ h_mo rfl).trans (ho_mo)
        refine hp_get (v := .ref (q + 10)) hx hb hts hown hZ fx22 fl_X13_29 rfl dX13_alike_12 ?_
        refine lv_iload_n hx hb dX13_alike_15 rfl (lv_at hl 0 rfl) ?_
        obtain ⟨hN25, g24, eV23, hf26⟩ := hq_o21 hP.1 (hr_10 hR)
        refine hp_iald hx hb hZ eV23 (hq_in (by omega) (by omega)) dX13_alike_16 ?_
        refine lv_topi (fun y27 ey28 => ?_)
        have b29 := hq_rng y27
        refine lv_iconst (v := 4) hx hb dX13_alike_17 (by decide) ?_
        refine lv_icmp_ne (tgt := 70) hx hb dX13_alike_18 (by decide) (fun c30 => ?_) (fun c30 => ?_)
        · have c30 : ¬ (y27).toInt = (4 : Int) := fun h9 => c30 (hq_eqi.mpr h9)
          refine lv_iconst (v := 0) hx hb dX13_alike_70 (by decide) ?_
          exact jn71 (0) trivial
        · have c30 : (y27).toInt = (4 : Int) := hq_eqi.mp c30
          refine lv_aload_n hx hb dX13_alike_21 rfl (lv_at hl 2 rfl) ?_
          refine hp_get (v := .ref (q + 11)) hx hb hts hown hZ fx22 fl_X13_32 rfl dX13_alike_22 ?_
          refine lv_iload_n hx hb dX13_alike_25 rfl (lv_at hl 0 rfl) ?_
          obtain ⟨hN33, g32, eV31, hf34⟩ := hq_o21 hP.1 (hr_11 hR)
          refine hp_iald hx hb hZ eV31 (hq_in (by omega) (by omega)) dX13_alike_26 ?_
          refine lv_topi (fun y35 ey36 => ?_)
          have b37 := hq_rng y35
          refine lv_aload_n hx hb dX13_alike_27 rfl (lv_at hl 2 rfl) ?_
          refine hp_get (v := .ref (q + 11)) hx hb hts hown hZ fx22 fl_X13_32 rfl dX13_alike_28 ?_
          refine lv_iload_n hx hb dX13_alike_31 rfl (lv_at hl 3 rfl) ?_
          refine hp_iald hx hb hZ eV31 (hq_in (by omega) (by omega)) dX13_alike_32 ?_
          refine lv_topi (fun y38 ey39 => ?_)
          have b40 := hq_rng y38
          refine lv_icmp_ne (tgt := 70) hx hb dX13_alike_33 (by decide) (fun c41 => ?_) (fun c41 => ?_)
          · have c41 : ¬ (y35).toInt = (y38).toInt := fun h9 => c41 (hq_eqi.mpr h9)
            refine lv_iconst (v := 0) hx hb dX13_alike_70 (by decide) ?_
            exact jn71 (0) trivial
          · have c41 : (y35).toInt = (y38).toInt := hq_eqi.mp c41
            refine lv_aload_n hx hb dX13_alike_36 rfl (lv_at hl 2 rfl) ?_
            refine hp_get (v := .ref (q + 12)) hx hb hts hown hZ fx22 fl_X13_35 rfl dX13_alike_37 ?_
            refine lv_iload_n hx hb dX13_alike_40 rfl (lv_at hl 0 rfl) ?_
            obtain ⟨hN44, g43, eV42, hf45⟩ := hq_o21 hP.1 (hr_12 hR)
            refine hp_iald hx hb hZ eV42 (hq_in (by omega) (by omega)) dX13_alike_41 ?_
            refine lv_topi (fun y46 ey47 => ?_)
            have b48 := hq_rng y46
            refine lv_aload_n hx hb dX13_alike_42 rfl (lv_at hl 2 rfl) ?_
            refine hp_get (v := .ref (q + 12)) hx hb hts hown hZ fx22 fl_X13_35 rfl dX13_alike_43 ?_
            refine lv_iload_n hx hb dX13_alike_46 rfl (lv_at hl 3 rfl) ?_
            refine hp_iald hx hb hZ eV42 (hq_in (by omega) (by omega)) dX13_alike_47 ?_
            refine lv_topi (fun y49 ey50 => ?_)
            have b51 := hq_rng y49
            refine lv_icmp_ne (tgt := 70) hx hb dX13_alike_48 (by decide) (fun c52 => ?_) (fun c52 => ?_)
            · have c52 : ¬ (y46).toInt = (y49).toInt := fun h9 => c52 (hq_eqi.mpr h9)
              refine lv_iconst (v := 0) hx hb dX13_alike_70 (by decide) ?_
              exact jn71 (0) trivial
            · have c52 : (y46).toInt = (y49).toInt := hq_eqi.mp c52
              refine lv_aload_n hx hb dX13_alike_51 rfl (lv_at hl 2 rfl) ?_
              refine hp_get (v := .ref (q + 13)) hx hb hts hown hZ fx22 fl_X13_38 rfl dX13_alike_52 ?_
              refine lv_iload_n hx hb dX13_alike_55 rfl (lv_at hl 0 rfl) ?_
              obtain ⟨hN55, g54, eV53, hf56⟩ := hq_o21 hP.1 (hr_13 hR)
              refine hp_iald hx hb hZ eV53 (hq_in (by omega) (by omega)) dX13_alike_56 ?_
              refine lv_topi (fun y57 ey58 => ?_)
              have b59 := hq_rng y57
              refine lv_aload_n hx hb dX13_alike_57 rfl (lv_at hl 2 rfl) ?_
              refine hp_get (v := .ref (q + 13)) hx hb hts hown hZ fx22 fl_X13_38 rfl dX13_alike_58 ?_
              refine lv_iload_n hx hb dX13_alike_61 rfl (lv_at hl 3 rfl) ?_
              refine hp_iald hx hb hZ eV53 (hq_in (by omega) (by omega)) dX13_alike_62 ?_
              refine lv_topi (fun y60 ey61 => ?_)
              have b62 := hq_rng y60
              refine lv_icmp_ne (tgt := 70) hx hb dX13_alike_63 (by decide) (fun c63 => ?_) (fun c63 => ?_)
              · have c63 : ¬ (y57).toInt = (y60).toInt := fun h9 => c63 (hq_eqi.mpr h9)
                refine lv_iconst (v := 0) hx hb dX13_alike_70 (by decide) ?_
                exact jn71 (0) trivial
              · have c63 : (y57).toInt = (y60).toInt := hq_eqi.mp c63
                refine lv_iconst (v := 1) hx hb dX13_alike_66 (by decide) ?_
                refine lv_goto (tgt := 71) hx hb dX13_alike_67 (by decide) ?_
                exact jn71 (1) trivial

set_option maxHeartbeats 4000000 in
set_option maxRecDepth 100000 in
theorem t_X13_takeLetters (l : Launch) (D : va_G) (cs : Nat → ClassId) (B : Nat) (G : hq_G) (V : hp_V) (n : Nat) (hI : hq_I cs G V) (q : Nat) (hR : hq_RT G q) (mo : Nat) (h_mo : G mo = some (24, 0, 0, 0)) (to : Nat) (h_to : G to = some (20, 960, 41, 0)) (k : Int32) {m_tp m_sz m_fr m_bh m_hd m_ft m_fa m_le m_fo m_as m_fd m_bc m_bg m_bs m_be m_b0 m_b1 m_cm m_hc : Int32} (ho_mo : V mo = some (.inr (13, hm_o q (m_tp) (m_sz) (m_fr) (m_bh) (m_hd) (m_ft) (m_fa) (m_le) (m_fo) (m_as) (m_fd) (m_bc) (m_bg) (m_bs) (m_be) (m_b0) (m_b1) (m_cm) (m_hc)))) (hi_mo0 : 0 ≤ m_tp.toInt ∧ m_tp.toInt ≤ 4000) (hi_mo1 : 0 ≤ m_sz.toInt ∧ m_sz.toInt ≤ 4000) (hi_mo2 : 0 ≤ m_le.toInt ∧ m_le.toInt ≤ 276) (hi_mo3 : 0 ≤ m_fo.toInt ∧ m_fo.toInt ≤ 4) (hi_mo4 : 0 ≤ m_as.toInt ∧ m_as.toInt ≤ 4000) (hi_mo5 : 0 ≤ m_fd.toInt ∧ m_fd.toInt ≤ 900) (hi_mo6 : 0 ≤ m_cm.toInt ∧ m_cm.toInt ≤ 2) (hi_mo7 : 0 ≤ m_hc.toInt ∧ m_hc.toInt ≤ 1) (hi_mo8 : hm_SC m_sz m_fr m_bh m_hd) (hl0 : 0 ≤ k.toInt) (hl1 : k.toInt < 120) (hh : m_hd.toInt = 3) : hp_M l yX13_takeLetters cX13_takeLetters 5 (some .int) ({ frames := 3, cells := 0, slots := 0, locals := 64 }) D cs B V n [.ref (mo), .ref (to), .int (k)] (hp_QI D cs B (fun r V' n' => n = n' ∧ hq_P cs G (fun g => g.1 == 1 || g.1 == 41) V V' ∧ (∃ (m_fr1 : Int32) (m_bh1 : Int32) (m_hd1 : Int32), V' mo = some (.inr (13, hm_o q (m_tp) (m_sz) (m_fr1) (m_bh1) (m_hd1) (m_ft) (m_fa) (m_le) (m_fo) (m_as) (m_fd) (m_bc) (m_bg) (m_bs) (m_be) (m_b0) (m_b1) (m_cm) (m_hc))) ∧ (hm_SC m_sz m_fr1 m_bh1 m_hd1) ∧ (m_bh.toInt ≤ m_bh1.toInt)) ∧ (r.toInt = m_bh.toInt - m_fr.toInt - 2))) 0 0 := by
  refine hp_walk (R0 := RX13) (by decide) rfl ?_ (Nat.le_of_ble_eq_true rfl)
  intro p e s m below meth c ls hx hb hr hts hown hlocks hin hml hZ hl
  have hP : hq_P cs G (fun g => g.1 == 1 || g.1 == 41) V V := hq_P.rf hI
  have hl : lv_has ls 5 [(0, .ref (mo)), (1, .ref (to)), (2, .int (k))] := hl
  have hb_k := hq_rng k
  have hb_m_tp := hq_rng m_tp
  have hb_m_sz := hq_rng m_sz
  have hb_m_fr := hq_rng m_fr
  have hb_m_bh := hq_rng m_bh
  have hb_m_hd := hq_rng m_hd
  have hb_m_ft := hq_rng m_ft
  have hb_m_fa := hq_rng m_fa
  have hb_m_le := hq_rng m_le
  have hb_m_fo := hq_rng m_fo
  have hb_m_as := hq_rng m_as
  have hb_m_fd := hq_rng m_fd
  have hb_m_bc := hq_rng m_bc
  have hb_m_bg := hq_rng m_bg
  have hb_m_bs := hq_rng m_bs
  have hb_m_be := hq_rng m_be
  have hb_m_b0 := hq_rng m_b0
  have hb_m_b1 := hq_rng m_b1
  have hb_m_cm := hq_rng m_cm
  have hb_m_hc := hq_rng m_hc
  have hscu := hm_SC.out (by assumption)
  refine lv_aload_n hx hb dX13_takeLetters_0 rfl (lv_at hl 0 rfl) ?_
  refine hp_get (v := .int (m_bh)) hx hb hts hown hZ ho_mo fl_X13_76 rfl dX13_takeLetters_1 ?_
  refine lv_aload_n hx hb dX13_takeLetters_4 rfl (lv_at hl 0 rfl) ?_
  refine hp_get (v := .int (m_fr)) hx hb hts hown hZ ho_mo fl_X13_60 rfl dX13_takeLetters_5 ?_
  refine lv_isub hx hb dX13_takeLetters_8 ?_
  refine lv_topi (fun y1 ey2 => ?_)
  obtain ⟨k3, hk4, b5, b6⟩ := hq_sub (m_bh) (m_fr)
  rw [← ey2] at hk4 b5 b6
  have hk4 : (y1).toInt = (m_bh).toInt - (m_fr).toInt + k3 * 4294967296 := hk4
  obtain rfl : k3 = 0 := by omega
  refine lv_iconst (v := 2) hx hb dX13_takeLetters_9 (by decide) ?_
  refine lv_isub hx hb dX13_takeLetters_10 ?_
  refine lv_topi (fun y7 ey8 => ?_)
  obtain ⟨k9, hk10, b11, b12⟩ := hq_sub (y1) (2)
  rw [← ey8] at hk10 b11 b12
  have hk10 : (y7).toInt = (y1).toInt - (2 : Int) + k9 * 4294967296 := hk10
  obtain rfl : k9 = 0 := by omega
  refine lv_istore_n (lv' := [(3, .int (y7)), (0, .ref (mo)), (1, .ref (to)), (2, .int (k))]) hx hb dX13_takeLetters_11 rfl hl (by decide) rfl (fun ls hl => ?_)
  refine lv_iconst (v := 0) hx hb dX13_takeLetters_12 (by decide) ?_
  refine lv_istore (lv' := [(4, .int (0)), (3, .int (y7)), (0, .ref (mo)), (1, .ref (to)), (2, .int (k))]) hx hb dX13_takeLetters_13 hl (by decide) rfl (fun ls hl => ?_)
  have hl13 : (0 : Int32).toInt = 0 := by decide
  suffices lp15 : ∀ (k9 : Nat) (V9 : hp_V) (H9 : Heap) (locs9 : List Loc) (ls : Array Slot) (i : Int32), (100 - i.toInt).toNat = k9 → hp_Z D cs B s V9 H9 n locs9 → hq_P cs G (fun g => g.1 == 1 || g.1 == 41) V V9 → V9 (mo) = some (.inr (13, hm_o q (m_tp) (m_sz) (m_fr) (m_bh) (m_hd) (m_ft) (m_fa) (m_le) (m_fo) (m_as) (m_fd) (m_bc) (m_bg) (m_bs) (m_be) (m_b0) (m_b1) (m_cm) (m_hc))) → 0 ≤ i.toInt → i.toInt ≤ 10 → lv_has ls 5 [(4, .int (i)), (3, .int (y7)), (0, .ref (mo)), (1, .ref (to)), (2, .int (k))] → W p l e ({ frames := 3, cells := 0, slots := 0, locals := 64 }) s m ([.ref (mo), .ref (to), .int (k)] : List Value).toArray below meth c H9 locs9 0 0 (MQ below (hp_QI D cs B (fun r V' n' => n = n' ∧ hq_P cs G (fun g => g.1 == 1 || g.1 == 41) V V' ∧ (∃ (m_fr1 : Int32) (m_bh1 : Int32) (m_hd1 : Int32), V' mo = some (.inr (13, hm_o q (m_tp) (m_sz) (m_fr1) (m_bh1) (m_hd1) (m_ft) (m_fa) (m_le) (m_fo) (m_as) (m_fd) (m_bc) (m_bg) (m_bs) (m_be) (m_b0) (m_b1) (m_cm) (m_hc))) ∧ (hm_SC m_sz m_fr1 m_bh1 m_hd1) ∧ (m_bh.toInt ≤ m_bh1.toInt)) ∧ (r.toInt = m_bh.toInt - m_fr.toInt - 2))) ([.ref (mo), .ref (to), .int (k)] : List Value).toArray s 0 0 (hp_F B)) (F0 m 15 ls []) from lp15 _ _ _ _ ls (0) rfl hZ hP ho_mo (by omega) (by omega) (lv_sub hl [0, 1, 2, 3, 4] rfl)
  intro k9
  induction k9 using Nat.strongRecOn with
  | _ k9 ih15 =>
    intro V9 H9 locs9 ls i  hk15 hZ hP ho14 hv15 hv16 hl
    have hb_i := hq_rng i
    have hP_15 := hP
    refine lv_iload hx hb dX13_takeLetters_15 (lv_at hl 0 rfl) ?_
    refine lv_iload_n hx hb dX13_takeLetters_17 rfl (lv_at hl 1 rfl) ?_
    refine lv_icmp_ge (tgt := 50) hx hb dX13_takeLetters_18 (by decide) (fun c17 => ?_) (fun c17 => ?_)
    · have c17 : (y7).toInt ≤ (i).toInt := hq_lei.mp c17
      refine lv_aload_n hx hb dX13_takeLetters_50 rfl (lv_at hl 2 rfl) ?_
      refine hp_callv (hp_runV (As := []) (rest := []) hx hb hml hown hts (t_X13_scan l D cs B G  V9 n hP.1 q hR (mo) h_mo ho14  (by omega) (by omega) (by omega) (by omega) (by omega) (by omega) (by omega) (by omega) (hm_SC.s0 (by assumption)) (hm_SC.s1 (by assumption) (by first | omega | (have h8 := hm_Is.hd (by assumption) (by omega); omega)))) hZ ho14 cv_X13_111 rfl rfl ⟨Nat.le_of_ble_eq_true rfl, Nat.le_of_ble_eq_true rfl⟩ rfl hl.1 rfl (Nat.le_of_ble_eq_true rfl) dX13_takeLetters_51 ⟨(Nat.le_of_ble_eq_true rfl), (Nat.le_of_ble_eq_true rfl)⟩) hZ (fun V18 n19 _ _ hw20 hZ => ?_)
      obtain ⟨rfl, hq22, ⟨z24, z25, z26, ho27, hi28, hi29, hi30⟩⟩ := hw20
      have hP := hP.trans hq22 (by intro g h; simp_all)
      have b31 := hq_rng z24
      have b32 := hq_rng z25
      have b33 := hq_rng z26
      refine lv_iload_n hx hb dX13_takeLetters_54 rfl (lv_at hl 1 rfl) ?_
      exact hp_iret hx hb hr hlocks hZ ⟨rfl, hP, ⟨z24, z25, z26, ho27, by assumption, by omega⟩, (by omega)⟩ dX13_takeLetters_55
    · have c17 : ¬ (y7).toInt ≤ (i).toInt := fun h9 => c17 (hq_lei.mpr h9)
      refine lv_aload_n hx hb dX13_takeLetters_21 rfl (lv_at hl 3 rfl) ?_
      refine lv_bipush (v := 8) hx hb dX13_takeLetters_22 (by decide) ?_
      refine lv_iload_n hx hb dX13_takeLetters_24 rfl (lv_at hl 4 rfl) ?_
      refine lv_imul hx hb dX13_takeLetters_25 ?_
      refine lv_topi (fun y34 ey35 => ?_)
      obtain ⟨k36, hk37, b38, b39⟩ := hq_mul (8) (k)
      rw [← ey35] at hk37 b38 b39
      have hk37 : (y34).toInt = (8 : Int) * (k).toInt + k36 * 4294967296 := hk37
      obtain rfl : k36 = 0 := by omega
      refine lv_iload hx hb dX13_takeLetters_26 (lv_at hl 0 rfl) ?_
      refine lv_iadd hx hb dX13_takeLetters_28 ?_
      refine lv_topi (fun y40 ey41 => ?_)
      obtain ⟨k42, hk43, b44, b45⟩ := hq_add (y34) (i)
      rw [← ey41] at hk43 b44 b45
      have hk43 : (y40).toInt = (y34).toInt + (i).toInt + k42 * 4294967296 := hk43
      obtain rfl : k42 = 0 := by omega
      refine lv_aload_n hx hb dX13_takeLetters_29 rfl (lv_at hl 2 rfl) ?_
      refine hp_get (v := .ref (q + 20)) hx hb hts hown hZ ho14 fl_X13_73 rfl dX13_takeLetters_30 ?_
      refine lv_aload_n hx hb dX13_takeLetters_33 rfl (lv_at hl 2 rfl) ?_
      refine hp_get (v := .int (m_fr)) hx hb hts hown hZ ho14 fl_X13_60 rfl dX13_takeLetters_34 ?_
      refine lv_iconst (v := 1) hx hb dX13_takeLetters_37 (by decide) ?_
      refine lv_iadd hx hb dX13_takeLetters_38 ?_
      refine lv_topi (fun y46 ey47 => ?_)
      obtain ⟨k48, hk49, b50, b51⟩ := hq_add (m_fr) (1)
      rw [← ey47] at hk49 b50 b51
      have hk49 : (y46).toInt = (m_fr).toInt + (1 : Int) + k48 * 4294967296 := hk49
      obtain rfl : k48 = 0 := by omega
      refine lv_iload hx hb dX13_takeLetters_39 (lv_at hl 0 rfl) ?_
      refine lv_iadd hx hb dX13_takeLetters_41 ?_
      refine lv_topi (fun y52 ey53 => ?_)
      obtain ⟨k54, hk55, b56, b57⟩ := hq_add (y46) (i)
      rw [← ey53] at hk55 b56 b57
      have hk55 : (y52).toInt = (y46).toInt + (i).toInt + k54 * 4294967296 := hk55
      obtain rfl : k54 = 0 := by omega
      obtain ⟨hN60, g59, eV58⟩ := hq_o20 hP.1 (hr_20 hR)
      refine hp_bald hx hb hZ eV58 (hq_in (by omega) (by omega)) dX13_takeLetters_42 ?_
      refine lv_topi (fun y62 ey63 => ?_)
      have b64 := hq_rng y62
      obtain ⟨hN67, g66, eV65⟩ := hq_o20 hP.1 h_to
      refine hp_bast hx hb hZ eV65 (hq_in (by omega) (by omega)) dX13_takeLetters_43 (fun V69 _ _ e70 o71 hZ => ?_)
      have e70 : V69 (to) = some (.inl (cs 0, 960, .inl (upd (g66) ((y40 : Int32).toNatClampNeg) ((y62 : Int32).toInt8.toInt32)))) := e70
      have hP := hP.put h_to e70 o71 (hq_c20 (by omega)) rfl
      obtain ⟨y72, ey73⟩ : ∃ y : Int32, y = i + (1) := ⟨_, rfl⟩
      obtain ⟨k74, hk75, b76, b77⟩ := hq_add (i) (1)
      rw [← ey73] at hk75 b76 b77
      have hk75 : (y72).toInt = (i).toInt + (1) + k74 * 4294967296 := hk75
      refine lv_iinc (v := y72) (lv' := [(4, .int (y72)), (3, .int (y7)), (0, .ref (mo)), (1, .ref (to)), (2, .int (k))]) hx hb dX13_takeLetters_44 hl (k := 0) rfl (by rw [ey73]; rfl) (by decide) rfl (fun ls hl => ?_)
      refine lv_goto (tgt := 15) hx hb dX13_takeLetters_47 (by decide) ?_
      have fx78 : V69 (mo) = some (.inr (13, hm_o q (m_tp) (m_sz) (m_fr) (m_bh) (m_hd) (m_ft) (m_fa) (m_le) (m_fo) (m_as) (m_fd) (m_bc) (m_bg) (m_bs) (m_be) (m_b0) (m_b1) (m_cm) (m_hc))) := (o71 (mo) (hq_tne h_mo h_to (by simp))).trans (ho14)
      exact ih15 _ (by omega) _ _ _ ls (y72) rfl hZ hP fx78 (by omega) (by omega) (lv_sub hl [0, 1, 2, 3, 4] rfl)

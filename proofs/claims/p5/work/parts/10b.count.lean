set_option maxHeartbeats 4000000 in
set_option maxRecDepth 100000 in
theorem x_fault (l : Launch) (D : va_G) (cs : Nat → ClassId) (B : Nat) (G : hq_G) (V : hp_V) (n : Nat) (hI : hq_I cs G V) (a : Nat) (kb : Nat) (qt : Nat) (qb : Nat) (k : Int32) (c_fs : Int32) (ptx : Value) (pou : Value) (fk : Int32) (fp : Int32) (nx : Int32) (tk : Int32) (st : Int32) (hc0 : V (a) = some (.inr (11, [.ref (kb), .ref (kb + 2), .ref (kb + 5), .ref (kb + 46), .ref (kb + 50), .ref (kb + 62), .ref (kb + 87), .int (c_fs), .ref (qt), .ref (qb)]))) (hc1 : V (kb + 2) = some (.inr (7, [.int (fk), .int (fp), ptx, pou, .int (nx), .int (tk), .int (st), .ref (kb + 3)]))) : hp_M l yX11_fault cX11_fault 2 (some .int) ({ frames := 1, cells := 0, slots := 0, locals := 21 }) D cs B V n [.ref (a), .int (k)] (hp_QI D cs B (fun r V' n' => n = n' ∧ V = V' ∧ ((k.toInt = 0 ∧ r.toInt = fk.toInt) ∨ (k.toInt = 1 ∧ r.toInt = fp.toInt) ∨ (¬ k.toInt = 0 ∧ ¬ k.toInt = 1 ∧ r.toInt = -1)))) 0 0 := by
  refine hp_walk (R0 := RX11) (by decide) rfl ?_ (Nat.le_of_ble_eq_true rfl)
  intro p e s m below meth c ls hx hb hr hts hown hlocks hin hml hZ hl
  have hP : hq_I cs G V := hI
  have hl : lv_has ls 2 [(0, .ref (a)), (1, .int (k))] := hl
  have hb_k := hq_rng k
  have hb_c_fs := hq_rng c_fs
  have hb_fk := hq_rng fk
  have hb_fp := hq_rng fp
  have hb_nx := hq_rng nx
  have hb_tk := hq_rng tk
  have hb_st := hq_rng st
  refine lv_iload_n hx hb dX11_fault_0 rfl (lv_at hl 1 rfl) ?_
  rcases Classical.em (k = 0) with h1 | h1
  · refine lv_lookup (off := 27) (tgt := 28) hx hb dX11_fault_1 (by decide) (by rw [h1]; decide) (by decide) ?_
    have b2 : (k).toInt = 0 := by rw [h1]; decide
    refine lv_aload_n hx hb dX11_fault_28 rfl (lv_at hl 0 rfl) ?_
    refine hp_get (v := .ref (kb + 2)) hx hb hts hown hZ hc0 fl_X11_21 rfl dX11_fault_29 ?_
    refine hp_get (v := .int (fk)) hx hb hts hown hZ hc1 fl_X11_90 rfl dX11_fault_32 ?_
    exact hp_iret hx hb hr hlocks hZ ⟨rfl, rfl, (by omega)⟩ dX11_fault_35
  ·
    rcases Classical.em (k = 1) with h3 | h3
    · refine lv_lookup (off := 35) (tgt := 36) hx hb dX11_fault_1 (by decide) (by rw [h3]; decide) (by decide) ?_
      have b4 : (k).toInt = 1 := by rw [h3]; decide
      refine lv_aload_n hx hb dX11_fault_36 rfl (lv_at hl 0 rfl) ?_
      refine hp_get (v := .ref (kb + 2)) hx hb hts hown hZ hc0 fl_X11_21 rfl dX11_fault_37 ?_
      refine hp_get (v := .int (fp)) hx hb hts hown hZ hc1 fl_X11_93 rfl dX11_fault_40 ?_
      exact hp_iret hx hb hr hlocks hZ ⟨rfl, rfl, (by omega)⟩ dX11_fault_43
    ·
      have z5 : ¬ (k).toInt = 0 := lv_neT h1 (by decide)
      have z6 : ¬ (k).toInt = 1 := lv_neT h3 (by decide)
      refine lv_lookup (off := 43) (tgt := 44) hx hb dX11_fault_1 (by decide) ((lv_osw h1 (by decide)).trans ((lv_osw h3 (by decide)).trans (rfl))) (by decide) ?_
      refine lv_iconst (v := -1) hx hb dX11_fault_44 (by decide) ?_
      have hl7 : (-1 : Int32).toInt = -1 := by decide
      exact hp_iret hx hb hr hlocks hZ ⟨rfl, rfl, (by omega)⟩ dX11_fault_45

set_option maxHeartbeats 4000000 in
set_option maxRecDepth 100000 in
theorem y_fault (l : Launch) (D : va_G) (cs : Nat → ClassId) (B : Nat) (G : hq_G) (V : hp_V) (n : Nat) (hI : hq_I cs G V) (q : Nat) (mo : Nat) (m_tp : Int32) (m_sz : Int32) (m_fr : Int32) (m_bh : Int32) (m_hd : Int32) (m_ft : Int32) (m_fa : Int32) (m_le : Int32) (m_fo : Int32) (m_as : Int32) (m_fd : Int32) (m_bc : Int32) (m_bg : Int32) (m_bs : Int32) (m_be : Int32) (m_b0 : Int32) (m_b1 : Int32) (m_cm : Int32) (m_hc : Int32) (k : Int32) (hc0 : V (mo) = some (.inr (13, hm_o q (m_tp) (m_sz) (m_fr) (m_bh) (m_hd) (m_ft) (m_fa) (m_le) (m_fo) (m_as) (m_fd) (m_bc) (m_bg) (m_bs) (m_be) (m_b0) (m_b1) (m_cm) (m_hc)))) (hR : hq_RT G q) (hmo : G mo = some (24, 0, 0, 0)) : hp_M l yX13_fault cX13_fault 2 (some .int) ({ frames := 1, cells := 0, slots := 0, locals := 21 }) D cs B V n [.ref (mo), .int (k)] (hp_QI D cs B (fun r V' n' => n = n' ∧ V = V' ∧ ((k.toInt = 0 ∧ r.toInt = m_ft.toInt) ∨ (k.toInt = 1 ∧ r.toInt = m_fa.toInt) ∨ (¬ k.toInt = 0 ∧ ¬ k.toInt = 1 ∧ r.toInt = -1)))) 0 0 := by
  refine hp_walk (R0 := RX13) (by decide) rfl ?_ (Nat.le_of_ble_eq_true rfl)
  intro p e s m below meth c ls hx hb hr hts hown hlocks hin hml hZ hl
  have hP : hq_I cs G V := hI
  have hl : lv_has ls 2 [(0, .ref (mo)), (1, .int (k))] := hl
  have hb_m_tp := hq_rng m_tp
  have hb_m_sz := hq_rng m_sz
  have hb_m_fr := hq_rng m_fr
  have hb_m_bh := hq_rng m_bh
  have hb_m_hd := hq_rng m_hd
  have hb_m_ft := hq_rng m_ft
  have hb_m_fa := hq_rng m_fa
  have hb_m_le := hq_rng m_le
  have hb_m_fo := hq_rng m_fo
  have hb_m_as := hq_rng m_as
  have hb_m_fd := hq_rng m_fd
  have hb_m_bc := hq_rng m_bc
  have hb_m_bg := hq_rng m_bg
  have hb_m_bs := hq_rng m_bs
  have hb_m_be := hq_rng m_be
  have hb_m_b0 := hq_rng m_b0
  have hb_m_b1 := hq_rng m_b1
  have hb_m_cm := hq_rng m_cm
  have hb_m_hc := hq_rng m_hc
  have hb_k := hq_rng k
  refine lv_iload_n hx hb dX13_fault_0 rfl (lv_at hl 1 rfl) ?_
  refine lv_if_ne (tgt := 11) hx hb dX13_fault_1 (by decide) (fun c1 => ?_) (fun c1 => ?_)
  · have c1 : ¬ (k).toInt = (0 : Int) := fun h9 => c1 (hq_eqi.mpr h9)
    refine lv_iload_n hx hb dX13_fault_11 rfl (lv_at hl 1 rfl) ?_
    refine lv_iconst (v := 1) hx hb dX13_fault_12 (by decide) ?_
    refine lv_icmp_ne (tgt := 23) hx hb dX13_fault_13 (by decide) (fun c2 => ?_) (fun c2 => ?_)
    · have c2 : ¬ (k).toInt = (1 : Int) := fun h9 => c2 (hq_eqi.mpr h9)
      refine lv_iconst (v := -1) hx hb dX13_fault_23 (by decide) ?_
      have hl3 : (-1 : Int32).toInt = -1 := by decide
      exact hp_iret hx hb hr hlocks hZ ⟨rfl, rfl, (by omega)⟩ dX13_fault_24
    · have c2 : (k).toInt = (1 : Int) := hq_eqi.mp c2
      refine lv_aload_n hx hb dX13_fault_16 rfl (lv_at hl 0 rfl) ?_
      refine hp_get (v := .int (m_fa)) hx hb hts hown hZ hc0 fl_X13_63 rfl dX13_fault_17 ?_
      refine lv_goto (tgt := 24) hx hb dX13_fault_20 (by decide) ?_
      exact hp_iret hx hb hr hlocks hZ ⟨rfl, rfl, (by omega)⟩ dX13_fault_24
  · have c1 : (k).toInt = (0 : Int) := hq_eqi.mp c1
    refine lv_aload_n hx hb dX13_fault_4 rfl (lv_at hl 0 rfl) ?_
    refine hp_get (v := .int (m_ft)) hx hb hts hown hZ hc0 fl_X13_56 rfl dX13_fault_5 ?_
    refine lv_goto (tgt := 24) hx hb dX13_fault_8 (by decide) ?_
    exact hp_iret hx hb hr hlocks hZ ⟨rfl, rfl, (by omega)⟩ dX13_fault_24

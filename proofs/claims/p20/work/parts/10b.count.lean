set_option maxHeartbeats 4000000 in
set_option maxRecDepth 100000 in
theorem x_count (l : Launch) (D : va_G) (cs : Nat → ClassId) (B : Nat) (G : hq_G) (V : hp_V) (n : Nat) (hI : hq_I cs G V) (a : Nat) (kb : Nat) (qt : Nat) (qb : Nat) (k : Int32) (c_fs : Int32) (z : Int32) (bc : Int32) (bv : Int32) (bl : Int32) (hc0 : V (a) = some (.inr (11, [.ref (kb), .ref (kb + 2), .ref (kb + 5), .ref (kb + 46), .ref (kb + 50), .ref (kb + 62), .ref (kb + 87), .int (c_fs), .ref (qt), .ref (qb)]))) (hc1 : V (qt) = some (.inr (0, [.ref (qt + 1), .int (bc), .ref (qt + 14), .ref (qt + 75), .int (bv), .ref (qt + 76), .int (bl)]))) (hc2 : V (kb) = some (.inr (9, [.ref (kb + 1), .int (z)]))) : hp_M l yX11_count cX11_count 2 (some .int) ({ frames := 1, cells := 0, slots := 0, locals := 21 }) D cs B V n [.ref (a), .int (k)] (hp_QI D cs B (fun r V' n' => n = n' ∧ V = V' ∧ ((k.toInt = 0 ∧ r.toInt = bc.toInt) ∨ (k.toInt = 1 ∧ r.toInt = bv.toInt) ∨ (k.toInt = 2 ∧ r.toInt = bl.toInt) ∨ (k.toInt = 3 ∧ r.toInt = z.toInt) ∨ (¬ k.toInt = 0 ∧ ¬ k.toInt = 1 ∧ ¬ k.toInt = 2 ∧ ¬ k.toInt = 3 ∧ r.toInt = -1)))) 0 0 := by
  refine hp_walk (R0 := RX11) (by decide) rfl ?_ (Nat.le_of_ble_eq_true rfl)
  intro p e s m below meth c ls hx hb hr hts hown hlocks hin hml hZ hl
  have hP : hq_I cs G V := hI
  have hl : lv_has ls 2 [(0, .ref (a)), (1, .int (k))] := hl
  have hb_k := hq_rng k
  have hb_c_fs := hq_rng c_fs
  have hb_z := hq_rng z
  have hb_bc := hq_rng bc
  have hb_bv := hq_rng bv
  have hb_bl := hq_rng bl
  refine lv_iload_n hx hb dX11_count_0 rfl (lv_at hl 1 rfl) ?_
  rcases Classical.em (k = 0) with h1 | h1
  · refine lv_tableIn (off := 31) (tgt := 32) hx hb dX11_count_1 (by rw [h1]; decide) (by rw [h1]; decide) (by rw [h1]; decide) (by decide) ?_
    have b2 : (k).toInt = 0 := by rw [h1]; decide
    refine lv_aload_n hx hb dX11_count_32 rfl (lv_at hl 0 rfl) ?_
    refine hp_get (v := .ref (qt)) hx hb hts hown hZ hc0 fl_X11_64 rfl dX11_count_33 ?_
    refine hp_get (v := .int (bc)) hx hb hts hown hZ hc1 fl_X11_282 rfl dX11_count_36 ?_
    exact hp_iret hx hb hr hlocks hZ ⟨rfl, rfl, (by omega)⟩ dX11_count_39
  ·
    rcases Classical.em (k = 1) with h3 | h3
    · refine lv_tableIn (off := 39) (tgt := 40) hx hb dX11_count_1 (by rw [h3]; decide) (by rw [h3]; decide) (by rw [h3]; decide) (by decide) ?_
      have b4 : (k).toInt = 1 := by rw [h3]; decide
      refine lv_aload_n hx hb dX11_count_40 rfl (lv_at hl 0 rfl) ?_
      refine hp_get (v := .ref (qt)) hx hb hts hown hZ hc0 fl_X11_64 rfl dX11_count_41 ?_
      refine hp_get (v := .int (bv)) hx hb hts hown hZ hc1 fl_X11_96 rfl dX11_count_44 ?_
      exact hp_iret hx hb hr hlocks hZ ⟨rfl, rfl, (by omega)⟩ dX11_count_47
    ·
      rcases Classical.em (k = 2) with h5 | h5
      · refine lv_tableIn (off := 47) (tgt := 48) hx hb dX11_count_1 (by rw [h5]; decide) (by rw [h5]; decide) (by rw [h5]; decide) (by decide) ?_
        have b6 : (k).toInt = 2 := by rw [h5]; decide
        refine lv_aload_n hx hb dX11_count_48 rfl (lv_at hl 0 rfl) ?_
        refine hp_get (v := .ref (qt)) hx hb hts hown hZ hc0 fl_X11_64 rfl dX11_count_49 ?_
        refine hp_get (v := .int (bl)) hx hb hts hown hZ hc1 fl_X11_87 rfl dX11_count_52 ?_
        exact hp_iret hx hb hr hlocks hZ ⟨rfl, rfl, (by omega)⟩ dX11_count_55
      ·
        rcases Classical.em (k = 3) with h7 | h7
        · refine lv_tableIn (off := 55) (tgt := 56) hx hb dX11_count_1 (by rw [h7]; decide) (by rw [h7]; decide) (by rw [h7]; decide) (by decide) ?_
          have b8 : (k).toInt = 3 := by rw [h7]; decide
          refine lv_aload_n hx hb dX11_count_56 rfl (lv_at hl 0 rfl) ?_
          refine hp_get (v := .ref (kb)) hx hb hts hown hZ hc0 fl_X11_14 rfl dX11_count_57 ?_
          refine hp_get (v := .int (z)) hx hb hts hown hZ hc2 fl_X11_71 rfl dX11_count_60 ?_
          exact hp_iret hx hb hr hlocks hZ ⟨rfl, rfl, (by omega)⟩ dX11_count_63
        ·
          have z9 : ¬ (k).toInt = 0 := lv_neT h1 (by decide)
          have z10 : ¬ (k).toInt = 1 := lv_neT h3 (by decide)
          have z11 : ¬ (k).toInt = 2 := lv_neT h5 (by decide)
          have z12 : ¬ (k).toInt = 3 := lv_neT h7 (by decide)
          refine lv_tableOut (tgt := 64) hx hb dX11_count_1 (by omega) (by decide) ?_
          refine lv_iconst (v := -1) hx hb dX11_count_64 (by decide) ?_
          have hl13 : (-1 : Int32).toInt = -1 := by decide
          exact hp_iret hx hb hr hlocks hZ ⟨rfl, rfl, (by omega)⟩ dX11_count_65

set_option maxHeartbeats 4000000 in
set_option maxRecDepth 100000 in
theorem x_fault (l : Launch) (D : va_G) (cs : Nat → ClassId) (B : Nat) (G : hq_G) (V : hp_V) (n : Nat) (hI : hq_I cs G V) (a : Nat) (kb : Nat) (qt : Nat) (qb : Nat) (k : Int32) (c_fs : Int32) (ptx : Value) (pou : Value) (fk : Int32) (fp : Int32) (nx : Int32) (tk : Int32) (st : Int32) (hc0 : V (a) = some (.inr (11, [.ref (kb), .ref (kb + 2), .ref (kb + 5), .ref (kb + 46), .ref (kb + 50), .ref (kb + 62), .ref (kb + 87), .int (c_fs), .ref (qt), .ref (qb)]))) (hc1 : V (kb + 2) = some (.inr (7, [.int (fk), .int (fp), ptx, pou, .int (nx), .int (tk), .int (st), .ref (kb + 3)]))) : hp_M l yX11_fault cX11_fault 2 (some .int) ({ frames := 1, cells := 0, slots := 0, locals := 21 }) D cs B V n [.ref (a), .int (k)] (hp_QI D cs B (fun r V' n' => n = n' ∧ V = V' ∧ ((k.toInt = 0 ∧ r.toInt = fk.toInt) ∨ (k.toInt = 1 ∧ r.toInt = fp.toInt) ∨ (¬ k.toInt = 0 ∧ ¬ k.toInt = 1 ∧ r.toInt = -1)))) 0 0 := by
  refine hp_walk (R0 := RX11) (by decide) rfl ?_ (Nat.le_of_ble_eq_true rfl)
  intro p e s m below meth c ls hx hb hr hts hown hlocks hin hml hZ hl
  have hP : hq_I cs G V := hI
  have hl : lv_has ls 2 [(0, .ref (a)), (1, .int (k))] := hl
  have hb_k := hq_rng k
  have hb_c_fs := hq_rng c_fs
  have hb_fk := hq_rng fk
  have hb_fp := hq_rng fp
  have hb_nx := hq_rng nx
  have hb_tk := hq_rng tk
  have hb_st := hq_rng st
  refine lv_iload_n hx hb dX11_fault_0 rfl (lv_at hl 1 rfl) ?_
  rcases Classical.em (k = 0) with h1 | h1
  · refine lv_lookup (off := 27) (tgt := 28) hx hb dX11_fault_1 (by decide) (by rw [h1]; decide) (by decide) ?_
    have b2 : (k).toInt = 0 := by rw [h1]; decide
    refine lv_aload_n hx hb dX11_fault_28 rfl (lv_at hl 0 rfl) ?_
    refine hp_get (v := .ref (kb + 2)) hx hb hts hown hZ hc0 fl_X11_21 rfl dX11_fault_29 ?_
    refine hp_get (v := .int (fk)) hx hb hts hown hZ hc1 fl_X11_90 rfl dX11_fault_32 ?_
    exact hp_iret hx hb hr hlocks hZ ⟨rfl, rfl, (by omega)⟩ dX11_fault_35
  ·
    rcases Classical.em (k = 1) with h3 | h3
    · refine lv_lookup (off := 35) (tgt := 36) hx hb dX11_fault_1 (by decide) (by rw [h3]; decide) (by decide) ?_
      have b4 : (k).toInt = 1 := by rw [h3]; decide
      refine lv_aload_n hx hb dX11_fault_36 rfl (lv_at hl 0 rfl) ?_
      refine hp_get (v := .ref (kb + 2)) hx hb hts hown hZ hc0 fl_X11_21 rfl dX11_fault_37 ?_
      refine hp_get (v := .int (fp)) hx hb hts hown hZ hc1 fl_X11_93 rfl dX11_fault_40 ?_
      exact hp_iret hx hb hr hlocks hZ ⟨rfl, rfl, (by omega)⟩ dX11_fault_43
    ·
      have z5 : ¬ (k).toInt = 0 := lv_neT h1 (by decide)
      have z6 : ¬ (k).toInt = 1 := lv_neT h3 (by decide)
      refine lv_lookup (off := 43) (tgt := 44) hx hb dX11_fault_1 (by decide) ((lv_osw h1 (by decide)).trans ((lv_osw h3 (by decide)).trans (rfl))) (by decide) ?_
      refine lv_iconst (v := -1) hx hb dX11_fault_44 (by decide) ?_
      have hl7 : (-1 : Int32).toInt = -1 := by decide
      exact hp_iret hx hb hr hlocks hZ ⟨rfl, rfl, (by omega)⟩ dX11_fault_45

set_option maxHeartbeats 4000000 in
set_option maxRecDepth 100000 in
theorem y_count (l : Launch) (D : va_G) (cs : Nat → ClassId) (B : Nat) (G : hq_G) (V : hp_V) (n : Nat) (hI : hq_I cs G V) (q : Nat) (mo : Nat) (rh : hm_Rh) (m_tp : Int32) (m_sz : Int32) (m_fr : Int32) (m_bh : Int32) (m_hd : Int32) (m_ft : Int32) (m_fa : Int32) (m_le : Int32) (m_fo : Int32) (m_as : Int32) (m_fd : Int32) (m_bc : Int32) (m_bg : Int32) (m_bs : Int32) (m_be : Int32) (m_b0 : Int32) (m_b1 : Int32) (m_cm : Int32) (m_hc : Int32) (k : Int32) (hc0 : V (mo) = some (.inr (13, hm_o q (m_tp) (m_sz) (m_fr) (m_bh) (m_hd) (m_ft) (m_fa) (m_le) (m_fo) (m_as) (m_fd) (m_bc) (m_bg) (m_bs) (m_be) (m_b0) (m_b1) (m_cm) (m_hc)))) (hp0 : hm_AR cs V q rh) (hR : hq_RT G q) (hmo : G mo = some (24, 0, 0, 0)) : hp_M l yX13_count cX13_count 2 (some .int) ({ frames := 1, cells := 0, slots := 0, locals := 21 }) D cs B V n [.ref (mo), .int (k)] (hp_QI D cs B (fun r V' n' => n = n' ∧ V = V' ∧ ((k.toInt = 0 ∧ r.toInt = (rh 0 0).toInt) ∨ (k.toInt = 1 ∧ r.toInt = (rh 1 0).toInt) ∨ (k.toInt = 2 ∧ r.toInt = (rh 2 0).toInt) ∨ (k.toInt = 3 ∧ r.toInt = m_tp.toInt) ∨ (¬ k.toInt = 0 ∧ ¬ k.toInt = 1 ∧ ¬ k.toInt = 2 ∧ ¬ k.toInt = 3 ∧ r.toInt = -1)))) 0 0 := by
  refine hp_walk (R0 := RX13) (by decide) rfl ?_ (Nat.le_of_ble_eq_true rfl)
  intro p e s m below meth c ls hx hb hr hts hown hlocks hin hml hZ hl
  have hP : hq_I cs G V := hI
  have hl : lv_has ls 2 [(0, .ref (mo)), (1, .int (k))] := hl
  have hb_m_tp := hq_rng m_tp
  have hb_m_sz := hq_rng m_sz
  have hb_m_fr := hq_rng m_fr
  have hb_m_bh := hq_rng m_bh
  have hb_m_hd := hq_rng m_hd
  have hb_m_ft := hq_rng m_ft
  have hb_m_fa := hq_rng m_fa
  have hb_m_le := hq_rng m_le
  have hb_m_fo := hq_rng m_fo
  have hb_m_as := hq_rng m_as
  have hb_m_fd := hq_rng m_fd
  have hb_m_bc := hq_rng m_bc
  have hb_m_bg := hq_rng m_bg
  have hb_m_bs := hq_rng m_bs
  have hb_m_be := hq_rng m_be
  have hb_m_b0 := hq_rng m_b0
  have hb_m_b1 := hq_rng m_b1
  have hb_m_cm := hq_rng m_cm
  have hb_m_hc := hq_rng m_hc
  have hb_k := hq_rng k
  refine lv_iload_n hx hb dX13_count_0 rfl (lv_at hl 1 rfl) ?_
  refine lv_if_ne (tgt := 13) hx hb dX13_count_1 (by decide) (fun c1 => ?_) (fun c1 => ?_)
  · have c1 : ¬ (k).toInt = (0 : Int) := fun h9 => c1 (hq_eqi.mpr h9)
    refine lv_iload_n hx hb dX13_count_13 rfl (lv_at hl 1 rfl) ?_
    refine lv_iconst (v := 1) hx hb dX13_count_14 (by decide) ?_
    refine lv_icmp_ne (tgt := 27) hx hb dX13_count_15 (by decide) (fun c2 => ?_) (fun c2 => ?_)
    · have c2 : ¬ (k).toInt = (1 : Int) := fun h9 => c2 (hq_eqi.mpr h9)
      refine lv_iload_n hx hb dX13_count_27 rfl (lv_at hl 1 rfl) ?_
      refine lv_iconst (v := 2) hx hb dX13_count_28 (by decide) ?_
      refine lv_icmp_ne (tgt := 41) hx hb dX13_count_29 (by decide) (fun c3 => ?_) (fun c3 => ?_)
      · have c3 : ¬ (k).toInt = (2 : Int) := fun h9 => c3 (hq_eqi.mpr h9)
        refine lv_iload_n hx hb dX13_count_41 rfl (lv_at hl 1 rfl) ?_
        refine lv_iconst (v := 3) hx hb dX13_count_42 (by decide) ?_
        refine lv_icmp_ne (tgt := 53) hx hb dX13_count_43 (by decide) (fun c4 => ?_) (fun c4 => ?_)
        · have c4 : ¬ (k).toInt = (3 : Int) := fun h9 => c4 (hq_eqi.mpr h9)
          refine lv_iconst (v := -1) hx hb dX13_count_53 (by decide) ?_
          have hl5 : (-1 : Int32).toInt = -1 := by decide
          exact hp_iret hx hb hr hlocks hZ ⟨rfl, rfl, (by omega)⟩ dX13_count_54
        · have c4 : (k).toInt = (3 : Int) := hq_eqi.mp c4
          refine lv_aload_n hx hb dX13_count_46 rfl (lv_at hl 0 rfl) ?_
          refine hp_get (v := .int (m_tp)) hx hb hts hown hZ hc0 fl_X13_295 rfl dX13_count_47 ?_
          refine lv_goto (tgt := 54) hx hb dX13_count_50 (by decide) ?_
          exact hp_iret hx hb hr hlocks hZ ⟨rfl, rfl, (by omega)⟩ dX13_count_54
      · have c3 : (k).toInt = (2 : Int) := hq_eqi.mp c3
        refine lv_aload_n hx hb dX13_count_32 rfl (lv_at hl 0 rfl) ?_
        refine hp_get (v := .ref (q + 2)) hx hb hts hown hZ hc0 fl_X13_10 rfl dX13_count_33 ?_
        refine lv_iconst (v := 0) hx hb dX13_count_36 (by decide) ?_
        obtain ⟨rf6, hrf7⟩ : ∃ f : Nat → Int32, f = rh 2 := ⟨_, rfl⟩
        have ea8 : V (q + 2) = some (.inl (cs 1, 2, .inl (rf6))) := by rw [hrf7]; exact hp0 2 (by decide)
        have hra9 := hq_rg hP (hr_2 hR) ea8
        refine hp_iald hx hb hZ ea8 (by unfold vp_in; decide) dX13_count_37 ?_
        refine lv_topi (fun y10 ey11 => ?_)
        have b12 : hq_ir (hq_lo 8) (hq_hi 8) y10 := by rw [ey11]; exact hra9 _ (by decide)
        have b12 : 0 ≤ (y10).toInt ∧ (y10).toInt ≤ 60 := b12
        have b13 : (y10).toInt = (rh 2 0).toInt := by rw [ey11, hrf7]; rfl
        refine lv_goto (tgt := 54) hx hb dX13_count_38 (by decide) ?_
        exact hp_iret hx hb hr hlocks hZ ⟨rfl, rfl, (by omega)⟩ dX13_count_54
    · have c2 : (k).toInt = (1 : Int) := hq_eqi.mp c2
      refine lv_aload_n hx hb dX13_count_18 rfl (lv_at hl 0 rfl) ?_
      refine hp_get (v := .ref (q + 1)) hx hb hts hown hZ hc0 fl_X13_7 rfl dX13_count_19 ?_
      refine lv_iconst (v := 0) hx hb dX13_count_22 (by decide) ?_
      obtain ⟨rf14, hrf15⟩ : ∃ f : Nat → Int32, f = rh 1 := ⟨_, rfl⟩
      have ea16 : V (q + 1) = some (.inl (cs 1, 2, .inl (rf14))) := by rw [hrf15]; exact hp0 1 (by decide)
      have hra17 := hq_rg hP (hr_1 hR) ea16
      refine hp_iald hx hb hZ ea16 (by unfold vp_in; decide) dX13_count_23 ?_
      refine lv_topi (fun y18 ey19 => ?_)
      have b20 : hq_ir (hq_lo 9) (hq_hi 9) y18 := by rw [ey19]; exact hra17 _ (by decide)
      have b20 : 0 ≤ (y18).toInt ∧ (y18).toInt ≤ 30 := b20
      have b21 : (y18).toInt = (rh 1 0).toInt := by rw [ey19, hrf15]; rfl
      refine lv_goto (tgt := 54) hx hb dX13_count_24 (by decide) ?_
      exact hp_iret hx hb hr hlocks hZ ⟨rfl, rfl, (by omega)⟩ dX13_count_54
  · have c1 : (k).toInt = (0 : Int) := hq_eqi.mp c1
    refine lv_aload_n hx hb dX13_count_4 rfl (lv_at hl 0 rfl) ?_
    refine hp_get (v := .ref (q)) hx hb hts hown hZ hc0 fl_X13_1 rfl dX13_count_5 ?_
    refine lv_iconst (v := 0) hx hb dX13_count_8 (by decide) ?_
    obtain ⟨rf22, hrf23⟩ : ∃ f : Nat → Int32, f = rh 0 := ⟨_, rfl⟩
    have ea24 : V (q) = some (.inl (cs 1, 2, .inl (rf22))) := by rw [hrf23]; exact hp0 0 (by decide)
    have hra25 := hq_rg hP (hr_0 hR) ea24
    refine hp_iald hx hb hZ ea24 (by unfold vp_in; decide) dX13_count_9 ?_
    refine lv_topi (fun y26 ey27 => ?_)
    have b28 : hq_ir (hq_lo 11) (hq_hi 11) y26 := by rw [ey27]; exact hra25 _ (by decide)
    have b28 : 0 ≤ (y26).toInt ∧ (y26).toInt ≤ 6 := b28
    have b29 : (y26).toInt = (rh 0 0).toInt := by rw [ey27, hrf23]; rfl
    refine lv_goto (tgt := 54) hx hb dX13_count_10 (by decide) ?_
    exact hp_iret hx hb hr hlocks hZ ⟨rfl, rfl, (by omega)⟩ dX13_count_54

set_option maxHeartbeats 4000000 in
set_option maxRecDepth 100000 in
theorem y_fault (l : Launch) (D : va_G) (cs : Nat → ClassId) (B : Nat) (G : hq_G) (V : hp_V) (n : Nat) (hI : hq_I cs G V) (q : Nat) (mo : Nat) (m_tp : Int32) (m_sz : Int32) (m_fr : Int32) (m_bh : Int32) (m_hd : Int32) (m_ft : Int32) (m_fa : Int32) (m_le : Int32) (m_fo : Int32) (m_as : Int32) (m_fd : Int32) (m_bc : Int32) (m_bg : Int32) (m_bs : Int32) (m_be : Int32) (m_b0 : Int32) (m_b1 : Int32) (m_cm : Int32) (m_hc : Int32) (k : Int32) (hc0 : V (mo) = some (.inr (13, hm_o q (m_tp) (m_sz) (m_fr) (m_bh) (m_hd) (m_ft) (m_fa) (m_le) (m_fo) (m_as) (m_fd) (m_bc) (m_bg) (m_bs) (m_be) (m_b0) (m_b1) (m_cm) (m_hc)))) (hR : hq_RT G q) (hmo : G mo = some (24, 0, 0, 0)) : hp_M l yX13_fault cX13_fault 2 (some .int) ({ frames := 1, cells := 0, slots := 0, locals := 21 }) D cs B V n [.ref (mo), .int (k)] (hp_QI D cs B (fun r V' n' => n = n' ∧ V = V' ∧ ((k.toInt = 0 ∧ r.toInt = m_ft.toInt) ∨ (k.toInt = 1 ∧ r.toInt = m_fa.toInt) ∨ (¬ k.toInt = 0 ∧ ¬ k.toInt = 1 ∧ r.toInt = -1)))) 0 0 := by
  refine hp_walk (R0 := RX13) (by decide) rfl ?_ (Nat.le_of_ble_eq_true rfl)
  intro p e s m below meth c ls hx hb hr hts hown hlocks hin hml hZ hl
  have hP : hq_I cs G V := hI
  have hl : lv_has ls 2 [(0, .ref (mo)), (1, .int (k))] := hl
  have hb_m_tp := hq_rng m_tp
  have hb_m_sz := hq_rng m_sz
  have hb_m_fr := hq_rng m_fr
  have hb_m_bh := hq_rng m_bh
  have hb_m_hd := hq_rng m_hd
  have hb_m_ft := hq_rng m_ft
  have hb_m_fa := hq_rng m_fa
  have hb_m_le := hq_rng m_le
  have hb_m_fo := hq_rng m_fo
  have hb_m_as := hq_rng m_as
  have hb_m_fd := hq_rng m_fd
  have hb_m_bc := hq_rng m_bc
  have hb_m_bg := hq_rng m_bg
  have hb_m_bs := hq_rng m_bs
  have hb_m_be := hq_rng m_be
  have hb_m_b0 := hq_rng m_b0
  have hb_m_b1 := hq_rng m_b1
  have hb_m_cm := hq_rng m_cm
  have hb_m_hc := hq_rng m_hc
  have hb_k := hq_rng k
  refine lv_iload_n hx hb dX13_fault_0 rfl (lv_at hl 1 rfl) ?_
  refine lv_if_ne (tgt := 11) hx hb dX13_fault_1 (by decide) (fun c1 => ?_) (fun c1 => ?_)
  · have c1 : ¬ (k).toInt = (0 : Int) := fun h9 => c1 (hq_eqi.mpr h9)
    refine lv_iload_n hx hb dX13_fault_11 rfl (lv_at hl 1 rfl) ?_
    refine lv_iconst (v := 1) hx hb dX13_fault_12 (by decide) ?_
    refine lv_icmp_ne (tgt := 23) hx hb dX13_fault_13 (by decide) (fun c2 => ?_) (fun c2 => ?_)
    · have c2 : ¬ (k).toInt = (1 : Int) := fun h9 => c2 (hq_eqi.mpr h9)
      refine lv_iconst (v := -1) hx hb dX13_fault_23 (by decide) ?_
      have hl3 : (-1 : Int32).toInt = -1 := by decide
      exact hp_iret hx hb hr hlocks hZ ⟨rfl, rfl, (by omega)⟩ dX13_fault_24
    · have c2 : (k).toInt = (1 : Int) := hq_eqi.mp c2
      refine lv_aload_n hx hb dX13_fault_16 rfl (lv_at hl 0 rfl) ?_
      refine hp_get (v := .int (m_fa)) hx hb hts hown hZ hc0 fl_X13_63 rfl dX13_fault_17 ?_
      refine lv_goto (tgt := 24) hx hb dX13_fault_20 (by decide) ?_
      exact hp_iret hx hb hr hlocks hZ ⟨rfl, rfl, (by omega)⟩ dX13_fault_24
  · have c1 : (k).toInt = (0 : Int) := hq_eqi.mp c1
    refine lv_aload_n hx hb dX13_fault_4 rfl (lv_at hl 0 rfl) ?_
    refine hp_get (v := .int (m_ft)) hx hb hts hown hZ hc0 fl_X13_56 rfl dX13_fault_5 ?_
    refine lv_goto (tgt := 24) hx hb dX13_fault_8 (by decide) ?_
    exact hp_iret hx hb hr hlocks hZ ⟨rfl, rfl, (by omega)⟩ dX13_fault_24

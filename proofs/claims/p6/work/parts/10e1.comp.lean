set_option maxHeartbeats 4000000 in
set_option maxRecDepth 100000 in
theorem x_verb (l : Launch) (D : va_G) (cs : Nat → ClassId) (B : Nat) (G : hq_G) (V : hp_V) (n : Nat) (hI : hq_I cs G V) (a : Nat) (kb : Nat) (qt : Nat) (qb : Nat) (bb : Nat) (w : sp_W) (bk : sp_B) (v : Int32) (k : Int32) (c_fs : Int32) (hc0 : V (a) = some (.inr (11, [.ref (kb), .ref (kb + 2), .ref (kb + 5), .ref (kb + 46), .ref (kb + 50), .ref (kb + 62), .ref (kb + 87), .int (c_fs), .ref (qt), .ref (qb)]))) (hBx : hx_BK cs V qt w bk) (hBS : hx_BS cs V qt) (hgd : sp_good w bk) (hBT : hx_BT G qt bb) : hp_M l yX11_verb cX11_verb 3 (some .int) ({ frames := 2, cells := 0, slots := 0, locals := 42 }) D cs B V n [.ref (a), .int (v), .int (k)] (hp_QI D cs B (fun r V' n' => n = n' ∧ V = V' ∧ (r.toInt = sp_verb w bk v.toInt k.toInt))) 0 0 := by
  refine hp_walk (R0 := RX11) (by decide) rfl ?_ (Nat.le_of_ble_eq_true rfl)
  intro p e s m below meth c ls hx hb hr hts hown hlocks hin hml hZ hl
  have hP : hq_I cs G V := hI
  have hl : lv_has ls 3 [(0, .ref (a)), (1, .int (v)), (2, .int (k))] := hl
  have hb_v := hq_rng v
  have hb_k := hq_rng k
  have hb_c_fs := hq_rng c_fs
  obtain ⟨⟨bc, bv, bl, hbk1, hbc, hbv, hbl⟩, -, hNV, ⟨vf, hvf, hvl, hVC⟩, hLL⟩ := id hBx
  obtain ⟨⟨g1, hg1, hr1⟩, ⟨g2, hg2, hr2⟩, ⟨g3, hg3, hr3⟩⟩ := id hBS
  have hb_bc := hq_rng bc
  have hb_bv := hq_rng bv
  have hb_bl := hq_rng bl
  have hlv9 := hNV.1
  have hll9 := hLL.1
  refine lv_iload_n hx hb dX11_verb_0 rfl (lv_at hl 1 rfl) ?_
  refine lv_if_lt (tgt := 15) hx hb dX11_verb_1 (by decide) (fun c1 => ?_) (fun c1 => ?_)
  · have c1 : (v).toInt < (0 : Int) := hq_lti.mp c1
    refine lv_iconst (v := -1) hx hb dX11_verb_15 (by decide) ?_
    have hl2 : (-1 : Int32).toInt = -1 := by decide
    exact hp_iret hx hb hr hlocks hZ ⟨rfl, rfl, by rw [sp_verb_o (w := w) (b := bk) (v := v.toInt) (k := k.toInt) (by omega)]; omega⟩ dX11_verb_16
  · have c1 : ¬ (v).toInt < (0 : Int) := fun h9 => c1 (hq_lti.mpr h9)
    refine lv_iload_n hx hb dX11_verb_4 rfl (lv_at hl 1 rfl) ?_
    refine lv_aload_n hx hb dX11_verb_5 rfl (lv_at hl 0 rfl) ?_
    refine hp_get (v := .ref (qt)) hx hb hts hown hZ hc0 fl_X11_64 rfl dX11_verb_6 ?_
    refine hp_get (v := .int (bv)) hx hb hts hown hZ hbk1 fl_X11_96 rfl dX11_verb_9 ?_
    refine lv_icmp_lt (tgt := 17) hx hb dX11_verb_12 (by decide) (fun c3 => ?_) (fun c3 => ?_)
    · have c3 : (v).toInt < (bv).toInt := hq_lti.mp c3
      refine lv_iload_n hx hb dX11_verb_17 rfl (lv_at hl 2 rfl) ?_
      rcases Classical.em (k = 0) with h4 | h4
      · refine lv_lookup (off := 26) (tgt := 44) hx hb dX11_verb_18 (by decide) (by rw [h4]; decide) (by decide) ?_
        have b5 : (k).toInt = 0 := by rw [h4]; decide
        refine lv_aload_n hx hb dX11_verb_44 rfl (lv_at hl 0 rfl) ?_
        refine hp_get (v := .ref (qt)) hx hb hts hown hZ hc0 fl_X11_64 rfl dX11_verb_45 ?_
        refine hp_get (v := .ref (qt + 75)) hx hb hts hown hZ hbk1 fl_X11_99 rfl dX11_verb_48 ?_
        refine lv_iload_n hx hb dX11_verb_51 rfl (lv_at hl 1 rfl) ?_
        refine hp_iald hx hb hZ hvf (hq_in (by omega) (by omega)) dX11_verb_52 ?_
        refine lv_topi (fun y6 ey7 => ?_)
        have b8 := hq_rng y6
        have hii : (v.toNatClampNeg : Int) = v.toInt := (hq_nn (by omega)).1.symm
        obtain ⟨x9, hx9⟩ : ∃ t, bk.2.2.1[v.toNatClampNeg]? = some t := ⟨_, List.getElem?_eq_getElem (by omega)⟩
        have b9 : (y6).toInt = x9 := by rw [ey7]; exact hVC _ _ hx9
        exact hp_iret hx hb hr hlocks hZ ⟨rfl, rfl, by rw [sp_verb_0 (w := w) (b := bk) (v := v.toInt) (k := k.toInt) (by omega) (by omega) hx9]; omega⟩ dX11_verb_53
      ·
        rcases Classical.em (k = 1) with h10 | h10
        · refine lv_lookup (off := 36) (tgt := 54) hx hb dX11_verb_18 (by decide) (by rw [h10]; decide) (by decide) ?_
          have b11 : (k).toInt = 1 := by rw [h10]; decide
          refine lv_aload_n hx hb dX11_verb_54 rfl (lv_at hl 0 rfl) ?_
          refine hp_get (v := .ref (qt)) hx hb hts hown hZ hc0 fl_X11_64 rfl dX11_verb_55 ?_
          refine hp_get (v := .ref (qt + 14)) hx hb hts hown hZ hbk1 fl_X11_102 rfl dX11_verb_58 ?_
          refine lv_iload_n hx hb dX11_verb_61 rfl (lv_at hl 1 rfl) ?_
          obtain ⟨ta, hta⟩ : ∃ ta, ta = qt + 15 + 2 * (v).toNatClampNeg := ⟨_, rfl⟩
          have hii : (v.toNatClampNeg : Int) = v.toInt := (hq_nn (by omega)).1.symm
          have hta1 : g2 (v).toNatClampNeg = some ta := by rw [hta]; exact hr2 _ (by omega)
          obtain ⟨t9, ht9⟩ : ∃ t, bk.2.1[v.toNatClampNeg]? = some t := ⟨_, List.getElem?_eq_getElem (by omega)⟩
          obtain ⟨tz, tf, ht1, ht2, ht3, ht4, ht5⟩ := (show hx_N cs V ta w t9 by rw [hta]; exact hNV.2 _ _ ht9)
          have hyt := hBT.2.1 (v).toNatClampNeg (by omega)
          rw [← hta] at hyt
          have hfr9 := hq_rgB hP hyt.2 ht2
          have hgn := hgd.2 _ _ ht9
          have hb_tz := hq_rng tz
          refine hp_aald (v := .ref (ta)) hx hb hZ 7 hg2 rfl (hq_in (by omega) (by omega)) (by rw [hta1]; rfl) dX11_verb_62 ?_
          refine hp_get (v := .int (tz)) hx hb hts hown hZ ht1 fl_X11_71 rfl dX11_verb_63 ?_
          exact hp_iret hx hb hr hlocks hZ ⟨rfl, rfl, by rw [sp_verb_1 (w := w) (b := bk) (v := v.toInt) (k := k.toInt) (by omega) (by omega) ht9]; omega⟩ dX11_verb_66
        ·
          have z12 : ¬ (k).toInt = 0 := lv_neT h4 (by decide)
          have z13 : ¬ (k).toInt = 1 := lv_neT h10 (by decide)
          refine lv_lookup (off := 49) (tgt := 67) hx hb dX11_verb_18 (by decide) ((lv_osw h4 (by decide)).trans ((lv_osw h10 (by decide)).trans (rfl))) (by decide) ?_
          refine lv_iload_n hx hb dX11_verb_67 rfl (lv_at hl 2 rfl) ?_
          refine lv_bipush (v := 10) hx hb dX11_verb_68 (by decide) ?_
          refine lv_icmp_ge (tgt := 77) hx hb dX11_verb_70 (by decide) (fun c14 => ?_) (fun c14 => ?_)
          · have c14 : (10 : Int) ≤ (k).toInt := hq_lei.mp c14
            refine lv_aload_n hx hb dX11_verb_77 rfl (lv_at hl 0 rfl) ?_
            refine hp_get (v := .ref (qt)) hx hb hts hown hZ hc0 fl_X11_64 rfl dX11_verb_78 ?_
            refine hp_get (v := .ref (qt + 14)) hx hb hts hown hZ hbk1 fl_X11_102 rfl dX11_verb_81 ?_
            refine lv_iload_n hx hb dX11_verb_84 rfl (lv_at hl 1 rfl) ?_
            obtain ⟨ta, hta⟩ : ∃ ta, ta = qt + 15 + 2 * (v).toNatClampNeg := ⟨_, rfl⟩
            have hii : (v.toNatClampNeg : Int) = v.toInt := (hq_nn (by omega)).1.symm
            have hta1 : g2 (v).toNatClampNeg = some ta := by rw [hta]; exact hr2 _ (by omega)
            obtain ⟨t9, ht9⟩ : ∃ t, bk.2.1[v.toNatClampNeg]? = some t := ⟨_, List.getElem?_eq_getElem (by omega)⟩
            obtain ⟨tz, tf, ht1, ht2, ht3, ht4, ht5⟩ := (show hx_N cs V ta w t9 by rw [hta]; exact hNV.2 _ _ ht9)
            have hyt := hBT.2.1 (v).toNatClampNeg (by omega)
            rw [← hta] at hyt
            have hfr9 := hq_rgB hP hyt.2 ht2
            have hgn := hgd.2 _ _ ht9
            have hb_tz := hq_rng tz
            refine hp_aald (v := .ref (ta)) hx hb hZ 7 hg2 rfl (hq_in (by omega) (by omega)) (by rw [hta1]; rfl) dX11_verb_85 ?_
            refine lv_iload_n hx hb dX11_verb_86 rfl (lv_at hl 2 rfl) ?_
            refine lv_bipush (v := 10) hx hb dX11_verb_87 (by decide) ?_
            refine lv_isub hx hb dX11_verb_89 ?_
            refine lv_topi (fun y15 ey16 => ?_)
            obtain ⟨k17, hk18, b19, b20⟩ := hq_sub (k) (10)
            rw [← ey16] at hk18 b19 b20
            have hk18 : (y15).toInt = (k).toInt - (10 : Int) + k17 * 4294967296 := hk18
            obtain rfl : k17 = 0 := by omega
            refine hp_calli (hp_runV (As := [.int (y15)]) (rest := []) hx hb hml hown hts (x_at l D cs B G V n hP (ta) (12) (y15) (tz) (tf)  ht1 ht2  (by omega) hfr9) hZ ht1 cv_X11_106 rfl rfl ⟨Nat.le_of_ble_eq_true rfl, Nat.le_of_ble_eq_true rfl⟩ rfl hl.1 rfl (Nat.le_of_ble_eq_true rfl) dX11_verb_90 ⟨(Nat.le_of_ble_eq_true rfl), (Nat.le_of_ble_eq_true rfl)⟩) hZ (fun r24 V21 n22 _ _ hw23 hZ => ?_)
            obtain ⟨rfl, rfl, hp27⟩ := hw23
            have b28 := hq_rng r24
            have hat9 := hp27
            exact hp_iret hx hb hr hlocks hZ ⟨rfl, rfl, (by rcases hat9 with ⟨g1, g2⟩ | ⟨g1, g2⟩; (· have h8 := (hq_nn (z := y15) (by omega)).1; have h7 := hgn (y15).toNatClampNeg (by omega); rw [ht5 _ (by omega)] at g2; rw [sp_verb_l (w := w) (b := bk) (v := v.toInt) (k := k.toInt) (by omega) ht9 (by omega), show sp_s w t9 + (k.toInt - 10) = sp_s w t9 + ((y15).toNatClampNeg : Int) by omega]; rcases g2 with g2 | g2 <;> omega); (· rw [sp_verb_n (w := w) (b := bk) (v := v.toInt) (k := k.toInt) (by omega) (by omega) ht9 (by omega)]; omega))⟩ dX11_verb_93
          · have c14 : ¬ (10 : Int) ≤ (k).toInt := fun h9 => c14 (hq_lei.mpr h9)
            refine lv_iconst (v := -1) hx hb dX11_verb_73 (by decide) ?_
            refine lv_goto (tgt := 93) hx hb dX11_verb_74 (by decide) ?_
            have hl29 : (-1 : Int32).toInt = -1 := by decide
            have hii : (v.toNatClampNeg : Int) = v.toInt := (hq_nn (by omega)).1.symm
            obtain ⟨t9, ht9⟩ : ∃ t, bk.2.1[v.toNatClampNeg]? = some t := ⟨_, List.getElem?_eq_getElem (by omega)⟩
            exact hp_iret hx hb hr hlocks hZ ⟨rfl, rfl, by rw [sp_verb_n (w := w) (b := bk) (v := v.toInt) (k := k.toInt) (by omega) (by omega) ht9 (by omega)]; omega⟩ dX11_verb_93
    · have c3 : ¬ (v).toInt < (bv).toInt := fun h9 => c3 (hq_lti.mpr h9)
      refine lv_iconst (v := -1) hx hb dX11_verb_15 (by decide) ?_
      have hl30 : (-1 : Int32).toInt = -1 := by decide
      exact hp_iret hx hb hr hlocks hZ ⟨rfl, rfl, by rw [sp_verb_o (w := w) (b := bk) (v := v.toInt) (k := k.toInt) (by omega)]; omega⟩ dX11_verb_16

set_option maxHeartbeats 4000000 in
set_option maxRecDepth 100000 in
theorem y_in (l : Launch) (D : va_G) (cs : Nat → ClassId) (B : Nat) (G : hq_G) (V : hp_V) (n : Nat) (hI : hq_I cs G V) (l1 : Int64) (l2 : Int64) (l3 : Int64) : hp_M l yX13_in cX13_in 6 (some .boolean) ({ frames := 1, cells := 0, slots := 0, locals := 21 }) D cs B V n [.long (l1), .long (l2), .long (l3)] (hp_QI D cs B (fun r V' n' => n = n' ∧ V = V' ∧ ((r.toInt = 1 ∧ l2.toInt ≤ l1.toInt ∧ l1.toInt ≤ l3.toInt) ∨ (r.toInt = 0 ∧ ¬ (l2.toInt ≤ l1.toInt ∧ l1.toInt ≤ l3.toInt))))) 0 0 := by
  refine hp_walk (R0 := RX13) (by decide) rfl ?_ (Nat.le_of_ble_eq_true rfl)
  intro p e s m below meth c ls hx hb hr hts hown hlocks hin hml hZ hl
  have hP : hq_I cs G V := hI
  have hl : lv_has ls 6 [(0, .long (l1)), (2, .long (l2)), (4, .long (l3))] := hl
  refine lv_lload_n hx hb dX13_in_0 rfl (lv_at hl 0 rfl) ?_
  refine lv_lload_n hx hb dX13_in_1 rfl (lv_at hl 1 rfl) ?_
  refine W.lcmp hx hb dX13_in_2 ?_
  refine lv_topi (fun y1 ey2 => ?_)
  have b3 := hm_cmp (l1) (l2)
  rw [← ey2] at b3
  refine lv_if_lt (tgt := 17) hx hb dX13_in_3 (by decide) (fun c4 => ?_) (fun c4 => ?_)
  · have c4 : (y1).toInt < (0 : Int) := hq_lti.mp c4
    refine lv_iconst (v := 0) hx hb dX13_in_17 (by decide) ?_
    have hl5 : (0 : Int32).toInt = 0 := by decide
    exact hp_zret hx hb hr rfl hlocks hZ ⟨rfl, rfl, (by omega)⟩ dX13_in_18
  · have c4 : ¬ (y1).toInt < (0 : Int) := fun h9 => c4 (hq_lti.mpr h9)
    refine lv_lload_n hx hb dX13_in_6 rfl (lv_at hl 0 rfl) ?_
    refine lv_lload hx hb dX13_in_7 (lv_at hl 2 rfl) ?_
    refine W.lcmp hx hb dX13_in_9 ?_
    refine lv_topi (fun y6 ey7 => ?_)
    have b8 := hm_cmp (l1) (l3)
    rw [← ey7] at b8
    refine lv_if_gt (tgt := 17) hx hb dX13_in_10 (by decide) (fun c9 => ?_) (fun c9 => ?_)
    · have c9 : (0 : Int) < (y6).toInt := hq_lti.mp c9
      refine lv_iconst (v := 0) hx hb dX13_in_17 (by decide) ?_
      have hl10 : (0 : Int32).toInt = 0 := by decide
      exact hp_zret hx hb hr rfl hlocks hZ ⟨rfl, rfl, (by omega)⟩ dX13_in_18
    · have c9 : ¬ (0 : Int) < (y6).toInt := fun h9 => c9 (hq_lti.mpr h9)
      refine lv_iconst (v := 1) hx hb dX13_in_13 (by decide) ?_
      refine lv_goto (tgt := 18) hx hb dX13_in_14 (by decide) ?_
      have hl11 : (1 : Int32).toInt = 1 := by decide
      exact hp_zret hx hb hr rfl hlocks hZ ⟨rfl, rfl, (by omega)⟩ dX13_in_18

set_option maxHeartbeats 4000000 in
set_option maxRecDepth 100000 in
theorem y_isVerb (l : Launch) (D : va_G) (cs : Nat → ClassId) (B : Nat) (G : hq_G) (V : hp_V) (n : Nat) (hI : hq_I cs G V) (q : Nat) (mo : Nat) (rh : hm_Rh) (m_tp : Int32) (m_sz : Int32) (m_fr : Int32) (m_bh : Int32) (m_hd : Int32) (m_ft : Int32) (m_fa : Int32) (m_le : Int32) (m_fo : Int32) (m_as : Int32) (m_fd : Int32) (m_bc : Int32) (m_bg : Int32) (m_bs : Int32) (m_be : Int32) (m_b0 : Int32) (m_b1 : Int32) (m_cm : Int32) (m_hc : Int32) (v : Int32) (hc0 : V (mo) = some (.inr (13, hm_o q (m_tp) (m_sz) (m_fr) (m_bh) (m_hd) (m_ft) (m_fa) (m_le) (m_fo) (m_as) (m_fd) (m_bc) (m_bg) (m_bs) (m_be) (m_b0) (m_b1) (m_cm) (m_hc)))) (hp0 : hm_AR cs V q rh) (hR : hq_RT G q) (hmo : G mo = some (24, 0, 0, 0)) : hp_M l yX13_isVerb cX13_isVerb 2 (some .boolean) ({ frames := 2, cells := 0, slots := 0, locals := 46 }) D cs B V n [.ref (mo), .int (v)] (hp_QI D cs B (fun r V' n' => n = n' ∧ V = V' ∧ ((r.toInt = 1 ∧ 0 ≤ v.toInt ∧ v.toInt < (rh 1 0).toInt) ∨ (r.toInt = 0 ∧ ¬ (0 ≤ v.toInt ∧ v.toInt < (rh 1 0).toInt))))) 0 0 := by
  refine hp_walk (R0 := RX13) (by decide) rfl ?_ (Nat.le_of_ble_eq_true rfl)
  intro p e s m below meth c ls hx hb hr hts hown hlocks hin hml hZ hl
  have hP : hq_I cs G V := hI
  have hl : lv_has ls 2 [(0, .ref (mo)), (1, .int (v))] := hl
  have hb_m_tp := hq_rng m_tp
  have hb_m_sz := hq_rng m_sz
  have hb_m_fr := hq_rng m_fr
  have hb_m_bh := hq_rng m_bh
  have hb_m_hd := hq_rng m_hd
  have hb_m_ft := hq_rng m_ft
  have hb_m_fa := hq_rng m_fa
  have hb_m_le := hq_rng m_le
  have hb_m_fo := hq_rng m_fo
  have hb_m_as := hq_rng m_as
  have hb_m_fd := hq_rng m_fd
  have hb_m_bc := hq_rng m_bc
  have hb_m_bg := hq_rng m_bg
  have hb_m_bs := hq_rng m_bs
  have hb_m_be := hq_rng m_be
  have hb_m_b0 := hq_rng m_b0
  have hb_m_b1 := hq_rng m_b1
  have hb_m_cm := hq_rng m_cm
  have hb_m_hc := hq_rng m_hc
  have hb_v := hq_rng v
  have hL0 : (0 : Int64).toInt = 0 := by decide
  have hL1 : (1 : Int64).toInt = 1 := by decide
  have hL4 : (4 : Int64).toInt = 4 := by decide
  have hL5 : (5 : Int64).toInt = 5 := by decide
  have hL9 : (9 : Int64).toInt = 9 := by decide
  have hL10 : (10 : Int64).toInt = 10 := by decide
  refine lv_iload_n hx hb dX13_isVerb_0 rfl (lv_at hl 1 rfl) ?_
  refine lv_i2l (v := (v).toInt64) hx hb dX13_isVerb_1 rfl ?_
  refine lv_topl (fun y1 ey2 => ?_)
  have b3 : (y1).toInt = (v).toInt := by rw [ey2]; exact hm_i2l _
  refine lv_lconst (v := 0) hx hb dX13_isVerb_2 (by decide) ?_
  refine lv_aload_n hx hb dX13_isVerb_3 rfl (lv_at hl 0 rfl) ?_
  refine hp_get (v := .ref (q + 1)) hx hb hts hown hZ hc0 fl_X13_7 rfl dX13_isVerb_4 ?_
  refine lv_iconst (v := 0) hx hb dX13_isVerb_7 (by decide) ?_
  obtain ⟨rf4, hrf5⟩ : ∃ f : Nat → Int32, f = rh 1 := ⟨_, rfl⟩
  have ea6 : V (q + 1) = some (.inl (cs 1, 2, .inl (rf4))) := by rw [hrf5]; exact hp0 1 (by decide)
  have hra7 := hq_rg hP (hr_1 hR) ea6
  refine hp_iald hx hb hZ ea6 (by unfold vp_in; decide) dX13_isVerb_8 ?_
  refine lv_topi (fun y8 ey9 => ?_)
  have b10 : hq_ir (hq_lo 9) (hq_hi 9) y8 := by rw [ey9]; exact hra7 _ (by decide)
  have b10 : 0 ≤ (y8).toInt ∧ (y8).toInt ≤ 30 := b10
  have b11 : (y8).toInt = (rh 1 0).toInt := by rw [ey9, hrf5]; rfl
  refine lv_i2l (v := (y8).toInt64) hx hb dX13_isVerb_9 rfl ?_
  refine lv_topl (fun y12 ey13 => ?_)
  have b14 : (y12).toInt = (y8).toInt := by rw [ey13]; exact hm_i2l _
  refine lv_lconst (v := 1) hx hb dX13_isVerb_10 (by decide) ?_
  refine lv_lsub hx hb dX13_isVerb_11 ?_
  refine lv_topl (fun y15 ey16 => ?_)
  have b18 : (1 : Int64).toInt = 1 := by decide
  have b17 : (y15).toInt = (y12).toInt - (1 : Int) := by rw [ey16]; exact hm_lsub _ _ (by omega) (by omega)
  refine hp_calli (hp_runS (As := [.long (y1), .long (0), .long (y15)]) (rest := []) hx hb hml hown hts (y_in l D cs B G V n hP (y1) (0) (y15)    ) hZ cv_X13_301 rfl rfl ⟨Nat.le_of_ble_eq_true rfl, Nat.le_of_ble_eq_true rfl⟩ rfl hl.1 rfl (Nat.le_of_ble_eq_true rfl) dX13_isVerb_12 ⟨(Nat.le_of_ble_eq_true rfl), (Nat.le_of_ble_eq_true rfl)⟩) hZ (fun r22 V19 n20 _ _ hw21 hZ => ?_)
  obtain ⟨rfl, rfl, hp25⟩ := hw21
  have b26 := hq_rng r22
  exact hp_zret hx hb hr (hq_nzi (by omega) (by omega)) hlocks hZ ⟨rfl, rfl, (by omega)⟩ dX13_isVerb_15

set_option maxHeartbeats 4000000 in
set_option maxRecDepth 100000 in
theorem y_verb (l : Launch) (D : va_G) (cs : Nat → ClassId) (B : Nat) (G : hq_G) (V : hp_V) (n : Nat) (hI : hq_I cs G V) (q : Nat) (mo : Nat) (w : sp_W) (bk : sp_B) (rh : hm_Rh) (m_tp : Int32) (m_sz : Int32) (m_fr : Int32) (m_bh : Int32) (m_hd : Int32) (m_ft : Int32) (m_fa : Int32) (m_le : Int32) (m_fo : Int32) (m_as : Int32) (m_fd : Int32) (m_bc : Int32) (m_bg : Int32) (m_bs : Int32) (m_be : Int32) (m_b0 : Int32) (m_b1 : Int32) (m_cm : Int32) (m_hc : Int32) (v : Int32) (k : Int32) (hc0 : V (mo) = some (.inr (13, hm_o q (m_tp) (m_sz) (m_fr) (m_bh) (m_hd) (m_ft) (m_fa) (m_le) (m_fo) (m_as) (m_fd) (m_bc) (m_bg) (m_bs) (m_be) (m_b0) (m_b1) (m_cm) (m_hc)))) (hp0 : hm_AR cs V q rh) (hR : hq_RT G q) (hmo : G mo = some (24, 0, 0, 0)) (hBm : hm_BK rh 0 w bk) : hp_M l yX13_verb cX13_verb 3 (some .int) ({ frames := 3, cells := 0, slots := 0, locals := 67 }) D cs B V n [.ref (mo), .int (v), .int (k)] (hp_QI D cs B (fun r V' n' => n = n' ∧ V = V' ∧ (r.toInt = sp_verb w bk v.toInt k.toInt))) 0 0 := by
  refine hp_walk (R0 := RX13) (by decide) rfl ?_ (Nat.le_of_ble_eq_true rfl)
  intro p e s m below meth c ls hx hb hr hts hown hlocks hin hml hZ hl
  have hP : hq_I cs G V := hI
  have hl : lv_has ls 3 [(0, .ref (mo)), (1, .int (v)), (2, .int (k))] := hl
  have hb_m_tp := hq_rng m_tp
  have hb_m_sz := hq_rng m_sz
  have hb_m_fr := hq_rng m_fr
  have hb_m_bh := hq_rng m_bh
  have hb_m_hd := hq_rng m_hd
  have hb_m_ft := hq_rng m_ft
  have hb_m_fa := hq_rng m_fa
  have hb_m_le := hq_rng m_le
  have hb_m_fo := hq_rng m_fo
  have hb_m_as := hq_rng m_as
  have hb_m_fd := hq_rng m_fd
  have hb_m_bc := hq_rng m_bc
  have hb_m_bg := hq_rng m_bg
  have hb_m_bs := hq_rng m_bs
  have hb_m_be := hq_rng m_be
  have hb_m_b0 := hq_rng m_b0
  have hb_m_b1 := hq_rng m_b1
  have hb_m_cm := hq_rng m_cm
  have hb_m_hc := hq_rng m_hc
  have hb_v := hq_rng v
  have hb_k := hq_rng k
  have hcv := hBm.2.1
  have hL0 : (0 : Int64).toInt = 0 := by decide
  have hL1 : (1 : Int64).toInt = 1 := by decide
  have hL4 : (4 : Int64).toInt = 4 := by decide
  have hL5 : (5 : Int64).toInt = 5 := by decide
  have hL9 : (9 : Int64).toInt = 9 := by decide
  have hL10 : (10 : Int64).toInt = 10 := by decide
  refine lv_aload_n hx hb dX13_verb_0 rfl (lv_at hl 0 rfl) ?_
  refine lv_iload_n hx hb dX13_verb_1 rfl (lv_at hl 1 rfl) ?_
  refine hp_calli (hp_runV (As := [.int (v)]) (rest := []) hx hb hml hown hts (y_isVerb l D cs B G V n hP (q) (mo) (rh) (m_tp) (m_sz) (m_fr) (m_bh) (m_hd) (m_ft) (m_fa) (m_le) (m_fo) (m_as) (m_fd) (m_bc) (m_bg) (m_bs) (m_be) (m_b0) (m_b1) (m_cm) (m_hc) (v)  hc0 hp0 hR hmo) hZ hc0 cv_X13_317 rfl rfl ⟨Nat.le_of_ble_eq_true rfl, Nat.le_of_ble_eq_true rfl⟩ rfl hl.1 rfl (Nat.le_of_ble_eq_true rfl) dX13_verb_2 ⟨(Nat.le_of_ble_eq_true rfl), (Nat.le_of_ble_eq_true rfl)⟩) hZ (fun r4 V1 n2 _ _ hw3 hZ => ?_)
  obtain ⟨rfl, rfl, hp7⟩ := hw3
  have b8 := hq_rng r4
  refine lv_if_ne (tgt := 10) hx hb dX13_verb_5 (by decide) (fun c9 => ?_) (fun c9 => ?_)
  · have c9 : ¬ (r4).toInt = (0 : Int) := fun h9 => c9 (hq_eqi.mpr h9)
    have hii : (v.toNatClampNeg : Int) = v.toInt := (hq_nn (by omega)).1.symm
    have hvl9 := hBm.2.2.2.2.1.1
    have hlv9 := hBm.2.2.2.1.1
    obtain ⟨t9, ht9⟩ : ∃ t, bk.2.1[v.toNatClampNeg]? = some t := ⟨_, List.getElem?_eq_getElem (by omega)⟩
    obtain ⟨x9, hx9⟩ : ∃ t, bk.2.2.1[v.toNatClampNeg]? = some t := ⟨_, List.getElem?_eq_getElem (by omega)⟩
    obtain ⟨hn1, hn2, hn3⟩ := hBm.2.2.2.1.2 _ _ ht9
    rw [show 30 * 0 + v.toNatClampNeg = v.toNatClampNeg by omega] at hn1
    have hc9 := hBm.2.2.2.2.1.2 _ _ hx9
    rw [show 30 * 0 + v.toNatClampNeg = v.toNatClampNeg by omega] at hc9
    refine lv_iload_n hx hb dX13_verb_10 rfl (lv_at hl 2 rfl) ?_
    refine lv_i2l (v := (k).toInt64) hx hb dX13_verb_11 rfl ?_
    refine lv_topl (fun y10 ey11 => ?_)
    have b12 : (y10).toInt = (k).toInt := by rw [ey11]; exact hm_i2l _
    refine lv_ldc2 (v := 10) hx hb hown (hts _ k64_X13_320) dX13_verb_12 ?_
    refine lv_ldc2 (v := 9) hx hb hown (hts _ k64_X13_322) dX13_verb_15 ?_
    refine lv_aload_n hx hb dX13_verb_18 rfl (lv_at hl 0 rfl) ?_
    refine hp_get (v := .ref (q + 8)) hx hb hts hown hZ hc0 fl_X13_13 rfl dX13_verb_19 ?_
    refine lv_iload_n hx hb dX13_verb_22 rfl (lv_at hl 1 rfl) ?_
    obtain ⟨rf13, hrf14⟩ : ∃ f : Nat → Int32, f = rh 8 := ⟨_, rfl⟩
    have ea15 : V (q + 8) = some (.inl (cs 1, 60, .inl (rf13))) := by rw [hrf14]; exact hp0 8 (by decide)
    have hra16 := hq_rg hP (hr_8 hR) ea15
    refine hp_iald hx hb hZ ea15 (hq_in (by omega) (by omega)) dX13_verb_23 ?_
    refine lv_topi (fun y17 ey18 => ?_)
    have b19 : hq_ir (hq_lo 2) (hq_hi 2) y17 := by rw [ey18]; exact hra16 _ (hq_ix (by omega) (by omega))
    have b19 : 0 ≤ (y17).toInt ∧ (y17).toInt ≤ 12 := b19
    have b20 : (y17).toInt = (rh 8 (v).toNatClampNeg).toInt := by rw [ey18, hrf14]
    refine lv_i2l (v := (y17).toInt64) hx hb dX13_verb_24 rfl ?_
    refine lv_topl (fun y21 ey22 => ?_)
    have b23 : (y21).toInt = (y17).toInt := by rw [ey22]; exact hm_i2l _
    refine lv_ladd hx hb dX13_verb_25 ?_
    refine lv_topl (fun y24 ey25 => ?_)
    have b27 : (9 : Int64).toInt = 9 := by decide
    have b26 : (y24).toInt = (9 : Int) + (y21).toInt := by rw [ey25]; exact hm_ladd _ _ (by omega) (by omega)
    refine hp_calli (hp_runS (As := [.long (y10), .long (10), .long (y24)]) (rest := []) hx hb hml hown hts (y_in l D cs B G V n hP (y10) (10) (y24)    ) hZ cv_X13_301 rfl rfl ⟨Nat.le_of_ble_eq_true rfl, Nat.le_of_ble_eq_true rfl⟩ rfl hl.1 rfl (Nat.le_of_ble_eq_true rfl) dX13_verb_26 ⟨(Nat.le_of_ble_eq_true rfl), (Nat.le_of_ble_eq_true rfl)⟩) hZ (fun r31 V28 n29 _ _ hw30 hZ => ?_)
    obtain ⟨rfl, rfl, hp34⟩ := hw30
    have b35 := hq_rng r31
    refine lv_if_eq (tgt := 47) hx hb dX13_verb_29 (by decide) (fun c36 => ?_) (fun c36 => ?_)
    · have c36 : (r31).toInt = (0 : Int) := hq_eqi.mp c36
      refine lv_iload_n hx hb dX13_verb_47 rfl (lv_at hl 2 rfl) ?_
      refine lv_if_ne (tgt := 60) hx hb dX13_verb_48 (by decide) (fun c37 => ?_) (fun c37 => ?_)
      · have c37 : ¬ (k).toInt = (0 : Int) := fun h9 => c37 (hq_eqi.mpr h9)
        refine lv_iload_n hx hb dX13_verb_60 rfl (lv_at hl 2 rfl) ?_
        refine lv_iconst (v := 1) hx hb dX13_verb_61 (by decide) ?_
        refine lv_icmp_ne (tgt := 74) hx hb dX13_verb_62 (by decide) (fun c38 => ?_) (fun c38 => ?_)
        · have c38 : ¬ (k).toInt = (1 : Int) := fun h9 => c38 (hq_eqi.mpr h9)
          refine lv_iconst (v := -1) hx hb dX13_verb_74 (by decide) ?_
          have hl39 : (-1 : Int32).toInt = -1 := by decide
          exact hp_iret hx hb hr hlocks hZ ⟨rfl, rfl, by rw [sp_verb_n (w := w) (b := bk) (v := v.toInt) (k := k.toInt) (by omega) (by omega) ht9 (by omega)]; omega⟩ dX13_verb_75
        · have c38 : (k).toInt = (1 : Int) := hq_eqi.mp c38
          refine lv_aload_n hx hb dX13_verb_65 rfl (lv_at hl 0 rfl) ?_
          refine hp_get (v := .ref (q + 8)) hx hb hts hown hZ hc0 fl_X13_13 rfl dX13_verb_66 ?_
          refine lv_iload_n hx hb dX13_verb_69 rfl (lv_at hl 1 rfl) ?_
          refine hp_iald hx hb hZ ea15 (hq_in (by omega) (by omega)) dX13_verb_70 ?_
          refine lv_topi (fun y40 ey41 => ?_)
          have b42 : hq_ir (hq_lo 2) (hq_hi 2) y40 := by rw [ey41]; exact hra16 _ (hq_ix (by omega) (by omega))
          have b42 : 0 ≤ (y40).toInt ∧ (y40).toInt ≤ 12 := b42
          have b43 : (y40).toInt = (rh 8 (v).toNatClampNeg).toInt := by rw [ey41, hrf14]
          refine lv_goto (tgt := 75) hx hb dX13_verb_71 (by decide) ?_
          exact hp_iret hx hb hr hlocks hZ ⟨rfl, rfl, by rw [sp_verb_1 (w := w) (b := bk) (v := v.toInt) (k := k.toInt) (by omega) (by omega) ht9]; omega⟩ dX13_verb_75
      · have c37 : (k).toInt = (0 : Int) := hq_eqi.mp c37
        refine lv_aload_n hx hb dX13_verb_51 rfl (lv_at hl 0 rfl) ?_
        refine hp_get (v := .ref (q + 9)) hx hb hts hown hZ hc0 fl_X13_16 rfl dX13_verb_52 ?_
        refine lv_iload_n hx hb dX13_verb_55 rfl (lv_at hl 1 rfl) ?_
        obtain ⟨rf44, hrf45⟩ : ∃ f : Nat → Int32, f = rh 9 := ⟨_, rfl⟩
        have ea46 : V (q + 9) = some (.inl (cs 1, 60, .inl (rf44))) := by rw [hrf45]; exact hp0 9 (by decide)
        have hra47 := hq_rg hP (hr_9 hR) ea46
        refine hp_iald hx hb hZ ea46 (hq_in (by omega) (by omega)) dX13_verb_56 ?_
        refine lv_topi (fun y48 ey49 => ?_)
        have b50 := hq_rng y48
        have b51 : (y48).toInt = (rh 9 (v).toNatClampNeg).toInt := by rw [ey49, hrf45]
        refine lv_goto (tgt := 75) hx hb dX13_verb_57 (by decide) ?_
        exact hp_iret hx hb hr hlocks hZ ⟨rfl, rfl, by rw [sp_verb_0 (w := w) (b := bk) (v := v.toInt) (k := k.toInt) (by omega) (by omega) hx9]; omega⟩ dX13_verb_75
    · have c36 : ¬ (r31).toInt = (0 : Int) := fun h9 => c36 (hq_eqi.mpr h9)
      refine lv_aload_n hx hb dX13_verb_32 rfl (lv_at hl 0 rfl) ?_
      refine hp_get (v := .ref (q + 4)) hx hb hts hown hZ hc0 fl_X13_19 rfl dX13_verb_33 ?_
      refine lv_bipush (v := 12) hx hb dX13_verb_36 (by decide) ?_
      refine lv_iload_n hx hb dX13_verb_38 rfl (lv_at hl 1 rfl) ?_
      refine lv_imul hx hb dX13_verb_39 ?_
      refine lv_topi (fun y52 ey53 => ?_)
      obtain ⟨k54, hk55, b56, b57⟩ := hq_mul (12) (v)
      rw [← ey53] at hk55 b56 b57
      have hk55 : (y52).toInt = (12 : Int) * (v).toInt + k54 * 4294967296 := hk55
      obtain rfl : k54 = 0 := by omega
      refine lv_iload_n hx hb dX13_verb_40 rfl (lv_at hl 2 rfl) ?_
      refine lv_iadd hx hb dX13_verb_41 ?_
      refine lv_topi (fun y58 ey59 => ?_)
      obtain ⟨k60, hk61, b62, b63⟩ := hq_add (y52) (k)
      rw [← ey59] at hk61 b62 b63
      have hk61 : (y58).toInt = (y52).toInt + (k).toInt + k60 * 4294967296 := hk61
      obtain rfl : k60 = 0 := by omega
      refine lv_bipush (v := 10) hx hb dX13_verb_42 (by decide) ?_
      refine lv_isub hx hb dX13_verb_44 ?_
      refine lv_topi (fun y64 ey65 => ?_)
      obtain ⟨k66, hk67, b68, b69⟩ := hq_sub (y58) (10)
      rw [← ey65] at hk67 b68 b69
      have hk67 : (y64).toInt = (y58).toInt - (10 : Int) + k66 * 4294967296 := hk67
      obtain rfl : k66 = 0 := by omega
      obtain ⟨rf70, hrf71⟩ : ∃ f : Nat → Int32, f = rh 4 := ⟨_, rfl⟩
      have ea72 : V (q + 4) = some (.inl (cs 0, 720, .inl (rf70))) := by rw [hrf71]; exact hp0 4 (by decide)
      refine hp_bald hx hb hZ ea72 (hq_in (by omega) (by omega)) dX13_verb_45 ?_
      refine lv_topi (fun y74 ey75 => ?_)
      have b76 := hq_rng y74
      have hk9 := (hq_nn (z := y64) (by omega)).1
      have b77 : (y74).toInt = w.1 (sp_s w t9 + (k.toInt - 10)) := by rw [ey75, hrf71, show (y64 : Int32).toNatClampNeg = 12 * (30 * 0 + v.toNatClampNeg) + (k.toInt - 10).toNat by omega, hn3 _ (by omega), show (((k.toInt - 10).toNat : Nat) : Int) = k.toInt - 10 by omega]
      exact hp_iret hx hb hr hlocks hZ ⟨rfl, rfl, by rw [sp_verb_l (w := w) (b := bk) (v := v.toInt) (k := k.toInt) (by omega) ht9 (by omega)]; omega⟩ dX13_verb_46
  · have c9 : (r4).toInt = (0 : Int) := hq_eqi.mp c9
    refine lv_iconst (v := -1) hx hb dX13_verb_8 (by decide) ?_
    have hl78 : (-1 : Int32).toInt = -1 := by decide
    exact hp_iret hx hb hr hlocks hZ ⟨rfl, rfl, by rw [sp_verb_o (w := w) (b := bk) (v := v.toInt) (k := k.toInt) (by omega)]; omega⟩ dX13_verb_9

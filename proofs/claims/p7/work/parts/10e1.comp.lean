set_option maxHeartbeats 4000000 in
set_option maxRecDepth 100000 in
theorem x_line (l : Launch) (D : va_G) (cs : Nat → ClassId) (B : Nat) (G : hq_G) (V : hp_V) (n : Nat) (hI : hq_I cs G V) (a : Nat) (kb : Nat) (qt : Nat) (qb : Nat) (w : sp_W) (bk : sp_B) (v : Int32) (k : Int32) (c_fs : Int32) (hc0 : V (a) = some (.inr (11, [.ref (kb), .ref (kb + 2), .ref (kb + 5), .ref (kb + 46), .ref (kb + 50), .ref (kb + 62), .ref (kb + 87), .int (c_fs), .ref (qt), .ref (qb)]))) (hBx : hx_BK cs V qt w bk) (hBS : hx_BS cs V qt) (hgd : sp_good w bk) : hp_M l yX11_line cX11_line 4 (some .int) ({ frames := 1, cells := 0, slots := 0, locals := 21 }) D cs B V n [.ref (a), .int (v), .int (k)] (hp_QI D cs B (fun r V' n' => n = n' ∧ V = V' ∧ (r.toInt = sp_lnt bk v.toInt k.toInt))) 0 0 := by
  refine hp_walk (R0 := RX11) (by decide) rfl ?_ (Nat.le_of_ble_eq_true rfl)
  intro p e s m below meth c ls hx hb hr hts hown hlocks hin hml hZ hl
  have hP : hq_I cs G V := hI
  have hl : lv_has ls 4 [(0, .ref (a)), (1, .int (v)), (2, .int (k))] := hl
  have hb_v := hq_rng v
  have hb_k := hq_rng k
  have hb_c_fs := hq_rng c_fs
  obtain ⟨⟨bc, bv, bl, hbk1, hbc, hbv, hbl⟩, -, hNV, ⟨vf, hvf, hvl, hVC⟩, hLL⟩ := id hBx
  obtain ⟨⟨g1, hg1, hr1⟩, ⟨g2, hg2, hr2⟩, ⟨g3, hg3, hr3⟩⟩ := id hBS
  have hb_bc := hq_rng bc
  have hb_bv := hq_rng bv
  have hb_bl := hq_rng bl
  have hlv9 := hNV.1
  have hll9 := hLL.1
  refine lv_iload_n hx hb dX11_line_0 rfl (lv_at hl 1 rfl) ?_
  refine lv_if_lt (tgt := 15) hx hb dX11_line_1 (by decide) (fun c1 => ?_) (fun c1 => ?_)
  · have c1 : (v).toInt < (0 : Int) := hq_lti.mp c1
    refine lv_bipush (v := -9) hx hb dX11_line_15 (by decide) ?_
    have hl2 : (-9 : Int32).toInt = -9 := by decide
    have hl9 : (-9 : Int32).toInt = -9 := by decide
    exact hp_iret hx hb hr hlocks hZ ⟨rfl, rfl, by rw [sp_lnt_o (b := bk) (v := v.toInt) (k := k.toInt) (by omega)]; omega⟩ dX11_line_17
  · have c1 : ¬ (v).toInt < (0 : Int) := fun h9 => c1 (hq_lti.mpr h9)
    refine lv_iload_n hx hb dX11_line_4 rfl (lv_at hl 1 rfl) ?_
    refine lv_aload_n hx hb dX11_line_5 rfl (lv_at hl 0 rfl) ?_
    refine hp_get (v := .ref (qt)) hx hb hts hown hZ hc0 fl_X11_64 rfl dX11_line_6 ?_
    refine hp_get (v := .int (bl)) hx hb hts hown hZ hbk1 fl_X11_87 rfl dX11_line_9 ?_
    refine lv_icmp_lt (tgt := 18) hx hb dX11_line_12 (by decide) (fun c3 => ?_) (fun c3 => ?_)
    · have c3 : (v).toInt < (bl).toInt := hq_lti.mp c3
      refine lv_aload_n hx hb dX11_line_18 rfl (lv_at hl 0 rfl) ?_
      refine hp_get (v := .ref (qt)) hx hb hts hown hZ hc0 fl_X11_64 rfl dX11_line_19 ?_
      refine hp_get (v := .ref (qt + 76)) hx hb hts hown hZ hbk1 fl_X11_110 rfl dX11_line_22 ?_
      refine lv_iload_n hx hb dX11_line_25 rfl (lv_at hl 1 rfl) ?_
      obtain ⟨la9, hla⟩ : ∃ ta, ta = qt + 77 + 5 * (v).toNatClampNeg := ⟨_, rfl⟩
      have hii : (v.toNatClampNeg : Int) = v.toInt := (hq_nn (by omega)).1.symm
      have hla1 : g3 (v).toNatClampNeg = some la9 := by rw [hla]; exact hr3 _ (by omega)
      obtain ⟨x9, hx9⟩ : ∃ t, bk.2.2.2[v.toNatClampNeg]? = some t := ⟨_, List.getElem?_eq_getElem (by omega)⟩
      obtain ⟨ak, ao, at9, ap, ah, aht, apa, ala, ha1, ha2, ha3, ha4, ha5, ha6, ha7, ⟨fz, ff, hf1, hf2, hf3, hf4, -⟩, ⟨sz, sf, hs1, hs2, hs3, hs4, -⟩⟩ := (show hx_LN cs V la9 w x9 by rw [hla]; exact hLL.2 _ _ hx9)
      obtain ⟨hg31, hg32, hg33⟩ := hgd.1 _ _ hx9
      have hb_ak := hq_rng ak
      have hb_ao := hq_rng ao
      have hb_at9 := hq_rng at9
      have hb_ap := hq_rng ap
      have hb_ah := hq_rng ah
      have hb_ala := hq_rng ala
      have hb_fz := hq_rng fz
      have hb_sz := hq_rng sz
      refine hp_aald (v := .ref (la9)) hx hb hZ 6 hg3 rfl (hq_in (by omega) (by omega)) (by rw [hla1]; rfl) dX11_line_26 ?_
      refine lv_astore_n (lv' := [(3, .ref (la9)), (0, .ref (a)), (1, .int (v)), (2, .int (k))]) hx hb dX11_line_27 rfl hl (by decide) rfl (fun ls hl => ?_)
      refine lv_iload_n hx hb dX11_line_28 rfl (lv_at hl 3 rfl) ?_
      rcases Classical.em (k = 0) with h4 | h4
      · refine lv_tableIn (off := 43) (tgt := 72) hx hb dX11_line_29 (by rw [h4]; decide) (by rw [h4]; decide) (by rw [h4]; decide) (by decide) ?_
        have b5 : (k).toInt = 0 := by rw [h4]; decide
        refine lv_aload_n hx hb dX11_line_72 rfl (lv_at hl 0 rfl) ?_
        refine hp_get (v := .int (ak)) hx hb hts hown hZ ha1 fl_X11_114 rfl dX11_line_73 ?_
        exact hp_iret hx hb hr hlocks hZ ⟨rfl, rfl, by rw [sp_lnt_i (b := bk) (v := v.toInt) (k := k.toInt) (by omega) hx9]; unfold sp_lnx; (repeat (first | (rw [if_pos]; rotate_left; omega) | (rw [if_neg]; rotate_left; omega))); omega⟩ dX11_line_76
      ·
        rcases Classical.em (k = 1) with h6 | h6
        · refine lv_tableIn (off := 48) (tgt := 77) hx hb dX11_line_29 (by rw [h6]; decide) (by rw [h6]; decide) (by rw [h6]; decide) (by decide) ?_
          have b7 : (k).toInt = 1 := by rw [h6]; decide
          refine lv_aload_n hx hb dX11_line_77 rfl (lv_at hl 0 rfl) ?_
          refine hp_get (v := .int (ao)) hx hb hts hown hZ ha1 fl_X11_119 rfl dX11_line_78 ?_
          exact hp_iret hx hb hr hlocks hZ ⟨rfl, rfl, by rw [sp_lnt_i (b := bk) (v := v.toInt) (k := k.toInt) (by omega) hx9]; unfold sp_lnx; (repeat (first | (rw [if_pos]; rotate_left; omega) | (rw [if_neg]; rotate_left; omega))); omega⟩ dX11_line_81
        ·
          rcases Classical.em (k = 2) with h8 | h8
          · refine lv_tableIn (off := 53) (tgt := 82) hx hb dX11_line_29 (by rw [h8]; decide) (by rw [h8]; decide) (by rw [h8]; decide) (by decide) ?_
            have b9 : (k).toInt = 2 := by rw [h8]; decide
            refine lv_aload_n hx hb dX11_line_82 rfl (lv_at hl 0 rfl) ?_
            refine hp_get (v := .int (at9)) hx hb hts hown hZ ha1 fl_X11_122 rfl dX11_line_83 ?_
            exact hp_iret hx hb hr hlocks hZ ⟨rfl, rfl, by rw [sp_lnt_i (b := bk) (v := v.toInt) (k := k.toInt) (by omega) hx9]; unfold sp_lnx; (repeat (first | (rw [if_pos]; rotate_left; omega) | (rw [if_neg]; rotate_left; omega))); omega⟩ dX11_line_86
          ·
            rcases Classical.em (k = 3) with h10 | h10
            · refine lv_tableIn (off := 58) (tgt := 87) hx hb dX11_line_29 (by rw [h10]; decide) (by rw [h10]; decide) (by rw [h10]; decide) (by decide) ?_
              have b11 : (k).toInt = 3 := by rw [h10]; decide
              refine lv_aload_n hx hb dX11_line_87 rfl (lv_at hl 0 rfl) ?_
              refine hp_get (v := .int (ap)) hx hb hts hown hZ ha1 fl_X11_125 rfl dX11_line_88 ?_
              exact hp_iret hx hb hr hlocks hZ ⟨rfl, rfl, by rw [sp_lnt_i (b := bk) (v := v.toInt) (k := k.toInt) (by omega) hx9]; unfold sp_lnx; (repeat (first | (rw [if_pos]; rotate_left; omega) | (rw [if_neg]; rotate_left; omega))); omega⟩ dX11_line_91
            ·
              rcases Classical.em (k = 4) with h12 | h12
              · refine lv_tableIn (off := 63) (tgt := 92) hx hb dX11_line_29 (by rw [h12]; decide) (by rw [h12]; decide) (by rw [h12]; decide) (by decide) ?_
                have b13 : (k).toInt = 4 := by rw [h12]; decide
                refine lv_aload_n hx hb dX11_line_92 rfl (lv_at hl 0 rfl) ?_
                refine hp_get (v := .ref (la9 + 1)) hx hb hts hown hZ ha1 fl_X11_128 rfl dX11_line_93 ?_
                refine hp_get (v := .int (fz)) hx hb hts hown hZ hf1 fl_X11_71 rfl dX11_line_96 ?_
                exact hp_iret hx hb hr hlocks hZ ⟨rfl, rfl, by rw [sp_lnt_i (b := bk) (v := v.toInt) (k := k.toInt) (by omega) hx9]; unfold sp_lnx; (repeat (first | (rw [if_pos]; rotate_left; omega) | (rw [if_neg]; rotate_left; omega))); omega⟩ dX11_line_99
              ·
                rcases Classical.em (k = 5) with h14 | h14
                · refine lv_tableIn (off := 71) (tgt := 100) hx hb dX11_line_29 (by rw [h14]; decide) (by rw [h14]; decide) (by rw [h14]; decide) (by decide) ?_
                  have b15 : (k).toInt = 5 := by rw [h14]; decide
                  refine lv_aload_n hx hb dX11_line_100 rfl (lv_at hl 0 rfl) ?_
                  refine hp_get (v := .ref (la9 + 3)) hx hb hts hown hZ ha1 fl_X11_131 rfl dX11_line_101 ?_
                  refine hp_get (v := .int (sz)) hx hb hts hown hZ hs1 fl_X11_71 rfl dX11_line_104 ?_
                  exact hp_iret hx hb hr hlocks hZ ⟨rfl, rfl, by rw [sp_lnt_i (b := bk) (v := v.toInt) (k := k.toInt) (by omega) hx9]; unfold sp_lnx; (repeat (first | (rw [if_pos]; rotate_left; omega) | (rw [if_neg]; rotate_left; omega))); omega⟩ dX11_line_107
                ·
                  rcases Classical.em (k = 6) with h16 | h16
                  · refine lv_tableIn (off := 79) (tgt := 108) hx hb dX11_line_29 (by rw [h16]; decide) (by rw [h16]; decide) (by rw [h16]; decide) (by decide) ?_
                    have b17 : (k).toInt = 6 := by rw [h16]; decide
                    refine lv_aload_n hx hb dX11_line_108 rfl (lv_at hl 0 rfl) ?_
                    refine hp_get (v := .int (ak)) hx hb hts hown hZ ha1 fl_X11_114 rfl dX11_line_109 ?_
                    refine lv_iconst (v := 3) hx hb dX11_line_112 (by decide) ?_
                    refine lv_icmp_ne (tgt := 123) hx hb dX11_line_113 (by decide) (fun c18 => ?_) (fun c18 => ?_)
                    · have c18 : ¬ (ak).toInt = (3 : Int) := fun h9 => c18 (hq_eqi.mpr h9)
                      refine lv_aload_n hx hb dX11_line_123 rfl (lv_at hl 0 rfl) ?_
                      refine hp_get (v := .int (ala)) hx hb hts hown hZ ha1 fl_X11_137 rfl dX11_line_124 ?_
                      refine lv_if_eq (tgt := 134) hx hb dX11_line_127 (by decide) (fun c19 => ?_) (fun c19 => ?_)
                      · have c19 : (ala).toInt = (0 : Int) := hq_eqi.mp c19
                        refine lv_iconst (v := 0) hx hb dX11_line_134 (by decide) ?_
                        have hl20 : (0 : Int32).toInt = 0 := by decide
                        exact hp_iret hx hb hr hlocks hZ ⟨rfl, rfl, by have h91 := ha7 (by omega); have h92 := hg33 (by omega); rw [sp_lnt_i (b := bk) (v := v.toInt) (k := k.toInt) (by omega) hx9]; unfold sp_lnx; (repeat (first | (rw [if_pos]; rotate_left; omega) | (rw [if_neg]; rotate_left; omega))); omega⟩ dX11_line_135
                      · have c19 : ¬ (ala).toInt = (0 : Int) := fun h9 => c19 (hq_eqi.mpr h9)
                        refine lv_iconst (v := 1) hx hb dX11_line_130 (by decide) ?_
                        refine lv_goto (tgt := 135) hx hb dX11_line_131 (by decide) ?_
                        have hl21 : (1 : Int32).toInt = 1 := by decide
                        exact hp_iret hx hb hr hlocks hZ ⟨rfl, rfl, by have h91 := ha7 (by omega); have h92 := hg33 (by omega); rw [sp_lnt_i (b := bk) (v := v.toInt) (k := k.toInt) (by omega) hx9]; unfold sp_lnx; (repeat (first | (rw [if_pos]; rotate_left; omega) | (rw [if_neg]; rotate_left; omega))); omega⟩ dX11_line_135
                    · have c18 : (ak).toInt = (3 : Int) := hq_eqi.mp c18
                      refine lv_aload_n hx hb dX11_line_116 rfl (lv_at hl 0 rfl) ?_
                      refine hp_get (v := .int (ah)) hx hb hts hown hZ ha1 fl_X11_134 rfl dX11_line_117 ?_
                      refine lv_goto (tgt := 135) hx hb dX11_line_120 (by decide) ?_
                      exact hp_iret hx hb hr hlocks hZ ⟨rfl, rfl, by have h91 := ha6 (by omega); rw [sp_lnt_i (b := bk) (v := v.toInt) (k := k.toInt) (by omega) hx9]; unfold sp_lnx; (repeat (first | (rw [if_pos]; rotate_left; omega) | (rw [if_neg]; rotate_left; omega))); omega⟩ dX11_line_135
                  ·
                    have z22 : ¬ (k).toInt = 0 := lv_neT h4 (by decide)
                    have z23 : ¬ (k).toInt = 1 := lv_neT h6 (by decide)
                    have z24 : ¬ (k).toInt = 2 := lv_neT h8 (by decide)
                    have z25 : ¬ (k).toInt = 3 := lv_neT h10 (by decide)
                    have z26 : ¬ (k).toInt = 4 := lv_neT h12 (by decide)
                    have z27 : ¬ (k).toInt = 5 := lv_neT h14 (by decide)
                    have z28 : ¬ (k).toInt = 6 := lv_neT h16 (by decide)
                    refine lv_tableOut (tgt := 136) hx hb dX11_line_29 (by omega) (by decide) ?_
                    refine lv_bipush (v := -9) hx hb dX11_line_136 (by decide) ?_
                    have hl29 : (-9 : Int32).toInt = -9 := by decide
                    have hl9 : (-9 : Int32).toInt = -9 := by decide
                    exact hp_iret hx hb hr hlocks hZ ⟨rfl, rfl, by rw [sp_lnt_i (b := bk) (v := v.toInt) (k := k.toInt) (by omega) hx9]; unfold sp_lnx; (repeat (first | (rw [if_pos]; rotate_left; omega) | (rw [if_neg]; rotate_left; omega))); omega⟩ dX11_line_138
    · have c3 : ¬ (v).toInt < (bl).toInt := fun h9 => c3 (hq_lti.mpr h9)
      refine lv_bipush (v := -9) hx hb dX11_line_15 (by decide) ?_
      have hl30 : (-9 : Int32).toInt = -9 := by decide
      have hl9 : (-9 : Int32).toInt = -9 := by decide
      exact hp_iret hx hb hr hlocks hZ ⟨rfl, rfl, by rw [sp_lnt_o (b := bk) (v := v.toInt) (k := k.toInt) (by omega)]; omega⟩ dX11_line_17

set_option maxHeartbeats 4000000 in
set_option maxRecDepth 100000 in
theorem y_in (l : Launch) (D : va_G) (cs : Nat → ClassId) (B : Nat) (G : hq_G) (V : hp_V) (n : Nat) (hI : hq_I cs G V) (l1 : Int64) (l2 : Int64) (l3 : Int64) : hp_M l yX13_in cX13_in 6 (some .boolean) ({ frames := 1, cells := 0, slots := 0, locals := 21 }) D cs B V n [.long (l1), .long (l2), .long (l3)] (hp_QI D cs B (fun r V' n' => n = n' ∧ V = V' ∧ ((r.toInt = 1 ∧ l2.toInt ≤ l1.toInt ∧ l1.toInt ≤ l3.toInt) ∨ (r.toInt = 0 ∧ ¬ (l2.toInt ≤ l1.toInt ∧ l1.toInt ≤ l3.toInt))))) 0 0 := by
  refine hp_walk (R0 := RX13) (by decide) rfl ?_ (Nat.le_of_ble_eq_true rfl)
  intro p e s m below meth c ls hx hb hr hts hown hlocks hin hml hZ hl
  have hP : hq_I cs G V := hI
  have hl : lv_has ls 6 [(0, .long (l1)), (2, .long (l2)), (4, .long (l3))] := hl
  refine lv_lload_n hx hb dX13_in_0 rfl (lv_at hl 0 rfl) ?_
  refine lv_lload_n hx hb dX13_in_1 rfl (lv_at hl 1 rfl) ?_
  refine W.lcmp hx hb dX13_in_2 ?_
  refine lv_topi (fun y1 ey2 => ?_)
  have b3 := hm_cmp (l1) (l2)
  rw [← ey2] at b3
  refine lv_if_lt (tgt := 17) hx hb dX13_in_3 (by decide) (fun c4 => ?_) (fun c4 => ?_)
  · have c4 : (y1).toInt < (0 : Int) := hq_lti.mp c4
    refine lv_iconst (v := 0) hx hb dX13_in_17 (by decide) ?_
    have hl5 : (0 : Int32).toInt = 0 := by decide
    exact hp_zret hx hb hr rfl hlocks hZ ⟨rfl, rfl, (by omega)⟩ dX13_in_18
  · have c4 : ¬ (y1).toInt < (0 : Int) := fun h9 => c4 (hq_lti.mpr h9)
    refine lv_lload_n hx hb dX13_in_6 rfl (lv_at hl 0 rfl) ?_
    refine lv_lload hx hb dX13_in_7 (lv_at hl 2 rfl) ?_
    refine W.lcmp hx hb dX13_in_9 ?_
    refine lv_topi (fun y6 ey7 => ?_)
    have b8 := hm_cmp (l1) (l3)
    rw [← ey7] at b8
    refine lv_if_gt (tgt := 17) hx hb dX13_in_10 (by decide) (fun c9 => ?_) (fun c9 => ?_)
    · have c9 : (0 : Int) < (y6).toInt := hq_lti.mp c9
      refine lv_iconst (v := 0) hx hb dX13_in_17 (by decide) ?_
      have hl10 : (0 : Int32).toInt = 0 := by decide
      exact hp_zret hx hb hr rfl hlocks hZ ⟨rfl, rfl, (by omega)⟩ dX13_in_18
    · have c9 : ¬ (0 : Int) < (y6).toInt := fun h9 => c9 (hq_lti.mpr h9)
      refine lv_iconst (v := 1) hx hb dX13_in_13 (by decide) ?_
      refine lv_goto (tgt := 18) hx hb dX13_in_14 (by decide) ?_
      have hl11 : (1 : Int32).toInt = 1 := by decide
      exact hp_zret hx hb hr rfl hlocks hZ ⟨rfl, rfl, (by omega)⟩ dX13_in_18

set_option maxHeartbeats 4000000 in
set_option maxRecDepth 100000 in
theorem y_isLine (l : Launch) (D : va_G) (cs : Nat → ClassId) (B : Nat) (G : hq_G) (V : hp_V) (n : Nat) (hI : hq_I cs G V) (q : Nat) (mo : Nat) (rh : hm_Rh) (m_tp : Int32) (m_sz : Int32) (m_fr : Int32) (m_bh : Int32) (m_hd : Int32) (m_ft : Int32) (m_fa : Int32) (m_le : Int32) (m_fo : Int32) (m_as : Int32) (m_fd : Int32) (m_bc : Int32) (m_bg : Int32) (m_bs : Int32) (m_be : Int32) (m_b0 : Int32) (m_b1 : Int32) (m_cm : Int32) (m_hc : Int32) (v : Int32) (hc0 : V (mo) = some (.inr (13, hm_o q (m_tp) (m_sz) (m_fr) (m_bh) (m_hd) (m_ft) (m_fa) (m_le) (m_fo) (m_as) (m_fd) (m_bc) (m_bg) (m_bs) (m_be) (m_b0) (m_b1) (m_cm) (m_hc)))) (hp0 : hm_AR cs V q rh) (hR : hq_RT G q) (hmo : G mo = some (24, 0, 0, 0)) : hp_M l yX13_isLine cX13_isLine 2 (some .boolean) ({ frames := 2, cells := 0, slots := 0, locals := 46 }) D cs B V n [.ref (mo), .int (v)] (hp_QI D cs B (fun r V' n' => n = n' ∧ V = V' ∧ ((r.toInt = 1 ∧ 0 ≤ v.toInt ∧ v.toInt < (rh 2 0).toInt) ∨ (r.toInt = 0 ∧ ¬ (0 ≤ v.toInt ∧ v.toInt < (rh 2 0).toInt))))) 0 0 := by
  refine hp_walk (R0 := RX13) (by decide) rfl ?_ (Nat.le_of_ble_eq_true rfl)
  intro p e s m below meth c ls hx hb hr hts hown hlocks hin hml hZ hl
  have hP : hq_I cs G V := hI
  have hl : lv_has ls 2 [(0, .ref (mo)), (1, .int (v))] := hl
  have hb_m_tp := hq_rng m_tp
  have hb_m_sz := hq_rng m_sz
  have hb_m_fr := hq_rng m_fr
  have hb_m_bh := hq_rng m_bh
  have hb_m_hd := hq_rng m_hd
  have hb_m_ft := hq_rng m_ft
  have hb_m_fa := hq_rng m_fa
  have hb_m_le := hq_rng m_le
  have hb_m_fo := hq_rng m_fo
  have hb_m_as := hq_rng m_as
  have hb_m_fd := hq_rng m_fd
  have hb_m_bc := hq_rng m_bc
  have hb_m_bg := hq_rng m_bg
  have hb_m_bs := hq_rng m_bs
  have hb_m_be := hq_rng m_be
  have hb_m_b0 := hq_rng m_b0
  have hb_m_b1 := hq_rng m_b1
  have hb_m_cm := hq_rng m_cm
  have hb_m_hc := hq_rng m_hc
  have hb_v := hq_rng v
  have hL0 : (0 : Int64).toInt = 0 := by decide
  have hL1 : (1 : Int64).toInt = 1 := by decide
  have hL4 : (4 : Int64).toInt = 4 := by decide
  have hL5 : (5 : Int64).toInt = 5 := by decide
  have hL9 : (9 : Int64).toInt = 9 := by decide
  have hL10 : (10 : Int64).toInt = 10 := by decide
  refine lv_iload_n hx hb dX13_isLine_0 rfl (lv_at hl 1 rfl) ?_
  refine lv_i2l (v := (v).toInt64) hx hb dX13_isLine_1 rfl ?_
  refine lv_topl (fun y1 ey2 => ?_)
  have b3 : (y1).toInt = (v).toInt := by rw [ey2]; exact hm_i2l _
  refine lv_lconst (v := 0) hx hb dX13_isLine_2 (by decide) ?_
  refine lv_aload_n hx hb dX13_isLine_3 rfl (lv_at hl 0 rfl) ?_
  refine hp_get (v := .ref (q + 2)) hx hb hts hown hZ hc0 fl_X13_10 rfl dX13_isLine_4 ?_
  refine lv_iconst (v := 0) hx hb dX13_isLine_7 (by decide) ?_
  obtain ⟨rf4, hrf5⟩ : ∃ f : Nat → Int32, f = rh 2 := ⟨_, rfl⟩
  have ea6 : V (q + 2) = some (.inl (cs 1, 2, .inl (rf4))) := by rw [hrf5]; exact hp0 2 (by decide)
  have hra7 := hq_rg hP (hr_2 hR) ea6
  refine hp_iald hx hb hZ ea6 (by unfold vp_in; decide) dX13_isLine_8 ?_
  refine lv_topi (fun y8 ey9 => ?_)
  have b10 : hq_ir (hq_lo 8) (hq_hi 8) y8 := by rw [ey9]; exact hra7 _ (by decide)
  have b10 : 0 ≤ (y8).toInt ∧ (y8).toInt ≤ 60 := b10
  have b11 : (y8).toInt = (rh 2 0).toInt := by rw [ey9, hrf5]; rfl
  refine lv_i2l (v := (y8).toInt64) hx hb dX13_isLine_9 rfl ?_
  refine lv_topl (fun y12 ey13 => ?_)
  have b14 : (y12).toInt = (y8).toInt := by rw [ey13]; exact hm_i2l _
  refine lv_lconst (v := 1) hx hb dX13_isLine_10 (by decide) ?_
  refine lv_lsub hx hb dX13_isLine_11 ?_
  refine lv_topl (fun y15 ey16 => ?_)
  have b18 : (1 : Int64).toInt = 1 := by decide
  have b17 : (y15).toInt = (y12).toInt - (1 : Int) := by rw [ey16]; exact hm_lsub _ _ (by omega) (by omega)
  refine hp_calli (hp_runS (As := [.long (y1), .long (0), .long (y15)]) (rest := []) hx hb hml hown hts (y_in l D cs B G V n hP (y1) (0) (y15)    ) hZ cv_X13_301 rfl rfl ⟨Nat.le_of_ble_eq_true rfl, Nat.le_of_ble_eq_true rfl⟩ rfl hl.1 rfl (Nat.le_of_ble_eq_true rfl) dX13_isLine_12 ⟨(Nat.le_of_ble_eq_true rfl), (Nat.le_of_ble_eq_true rfl)⟩) hZ (fun r22 V19 n20 _ _ hw21 hZ => ?_)
  obtain ⟨rfl, rfl, hp25⟩ := hw21
  have b26 := hq_rng r22
  exact hp_zret hx hb hr (hq_nzi (by omega) (by omega)) hlocks hZ ⟨rfl, rfl, (by omega)⟩ dX13_isLine_15

set_option maxHeartbeats 4000000 in
set_option maxRecDepth 100000 in
theorem y_line (l : Launch) (D : va_G) (cs : Nat → ClassId) (B : Nat) (G : hq_G) (V : hp_V) (n : Nat) (hI : hq_I cs G V) (q : Nat) (mo : Nat) (w : sp_W) (bk : sp_B) (rh : hm_Rh) (m_tp : Int32) (m_sz : Int32) (m_fr : Int32) (m_bh : Int32) (m_hd : Int32) (m_ft : Int32) (m_fa : Int32) (m_le : Int32) (m_fo : Int32) (m_as : Int32) (m_fd : Int32) (m_bc : Int32) (m_bg : Int32) (m_bs : Int32) (m_be : Int32) (m_b0 : Int32) (m_b1 : Int32) (m_cm : Int32) (m_hc : Int32) (v : Int32) (k : Int32) (hc0 : V (mo) = some (.inr (13, hm_o q (m_tp) (m_sz) (m_fr) (m_bh) (m_hd) (m_ft) (m_fa) (m_le) (m_fo) (m_as) (m_fd) (m_bc) (m_bg) (m_bs) (m_be) (m_b0) (m_b1) (m_cm) (m_hc)))) (hp0 : hm_AR cs V q rh) (hR : hq_RT G q) (hmo : G mo = some (24, 0, 0, 0)) (hBm : hm_BK rh 0 w bk) : hp_M l yX13_line cX13_line 3 (some .int) ({ frames := 3, cells := 0, slots := 0, locals := 67 }) D cs B V n [.ref (mo), .int (v), .int (k)] (hp_QI D cs B (fun r V' n' => n = n' ∧ V = V' ∧ (r.toInt = sp_lnt bk v.toInt k.toInt))) 0 0 := by
  refine hp_walk (R0 := RX13) (by decide) rfl ?_ (Nat.le_of_ble_eq_true rfl)
  intro p e s m below meth c ls hx hb hr hts hown hlocks hin hml hZ hl
  have hP : hq_I cs G V := hI
  have hl : lv_has ls 3 [(0, .ref (mo)), (1, .int (v)), (2, .int (k))] := hl
  have hb_m_tp := hq_rng m_tp
  have hb_m_sz := hq_rng m_sz
  have hb_m_fr := hq_rng m_fr
  have hb_m_bh := hq_rng m_bh
  have hb_m_hd := hq_rng m_hd
  have hb_m_ft := hq_rng m_ft
  have hb_m_fa := hq_rng m_fa
  have hb_m_le := hq_rng m_le
  have hb_m_fo := hq_rng m_fo
  have hb_m_as := hq_rng m_as
  have hb_m_fd := hq_rng m_fd
  have hb_m_bc := hq_rng m_bc
  have hb_m_bg := hq_rng m_bg
  have hb_m_bs := hq_rng m_bs
  have hb_m_be := hq_rng m_be
  have hb_m_b0 := hq_rng m_b0
  have hb_m_b1 := hq_rng m_b1
  have hb_m_cm := hq_rng m_cm
  have hb_m_hc := hq_rng m_hc
  have hb_v := hq_rng v
  have hb_k := hq_rng k
  have hcl := hBm.2.2.1
  refine lv_aload_n hx hb dX13_line_0 rfl (lv_at hl 0 rfl) ?_
  refine lv_iload_n hx hb dX13_line_1 rfl (lv_at hl 1 rfl) ?_
  refine hp_calli (hp_runV (As := [.int (v)]) (rest := []) hx hb hml hown hts (y_isLine l D cs B G V n hP (q) (mo) (rh) (m_tp) (m_sz) (m_fr) (m_bh) (m_hd) (m_ft) (m_fa) (m_le) (m_fo) (m_as) (m_fd) (m_bc) (m_bg) (m_bs) (m_be) (m_b0) (m_b1) (m_cm) (m_hc) (v)  hc0 hp0 hR hmo) hZ hc0 cv_X13_324 rfl rfl ⟨Nat.le_of_ble_eq_true rfl, Nat.le_of_ble_eq_true rfl⟩ rfl hl.1 rfl (Nat.le_of_ble_eq_true rfl) dX13_line_2 ⟨(Nat.le_of_ble_eq_true rfl), (Nat.le_of_ble_eq_true rfl)⟩) hZ (fun r4 V1 n2 _ _ hw3 hZ => ?_)
  obtain ⟨rfl, rfl, hp7⟩ := hw3
  have b8 := hq_rng r4
  refine lv_if_ne (tgt := 11) hx hb dX13_line_5 (by decide) (fun c9 => ?_) (fun c9 => ?_)
  · have c9 : ¬ (r4).toInt = (0 : Int) := fun h9 => c9 (hq_eqi.mpr h9)
    have hii : (v.toNatClampNeg : Int) = v.toInt := (hq_nn (by omega)).1.symm
    have hll9 := hBm.2.2.2.2.2.1
    obtain ⟨x9, hx9⟩ : ∃ t, bk.2.2.2[v.toNatClampNeg]? = some t := ⟨_, List.getElem?_eq_getElem (by omega)⟩
    obtain ⟨hq1, hq2, hq3, hq4, hq5, ⟨hq6, -⟩, ⟨hq7, -⟩⟩ := hBm.2.2.2.2.2.2 _ _ hx9
    rw [show 60 * 0 + v.toNatClampNeg = v.toNatClampNeg by omega] at hq1 hq2 hq3 hq4 hq5 hq6 hq7
    refine lv_iload_n hx hb dX13_line_11 rfl (lv_at hl 2 rfl) ?_
    rcases Classical.em (k = 0) with h10 | h10
    · refine lv_tableIn (off := 44) (tgt := 56) hx hb dX13_line_12 (by rw [h10]; decide) (by rw [h10]; decide) (by rw [h10]; decide) (by decide) ?_
      have b11 : (k).toInt = 0 := by rw [h10]; decide
      refine lv_aload_n hx hb dX13_line_56 rfl (lv_at hl 0 rfl) ?_
      refine hp_get (v := .ref (q + 10)) hx hb hts hown hZ hc0 fl_X13_29 rfl dX13_line_57 ?_
      refine lv_iload_n hx hb dX13_line_60 rfl (lv_at hl 1 rfl) ?_
      obtain ⟨rf12, hrf13⟩ : ∃ f : Nat → Int32, f = rh 10 := ⟨_, rfl⟩
      have ea14 : V (q + 10) = some (.inl (cs 1, 120, .inl (rf12))) := by rw [hrf13]; exact hp0 10 (by decide)
      have hra15 := hq_rg hP (hr_10 hR) ea14
      refine hp_iald hx hb hZ ea14 (hq_in (by omega) (by omega)) dX13_line_61 ?_
      refine lv_topi (fun y16 ey17 => ?_)
      have b18 := hq_rng y16
      have b19 : (y16).toInt = (rh 10 (v).toNatClampNeg).toInt := by rw [ey17, hrf13]
      exact hp_iret hx hb hr hlocks hZ ⟨rfl, rfl, by rw [sp_lnt_i (b := bk) (v := v.toInt) (k := k.toInt) (by omega) hx9]; unfold sp_lnx; (repeat (first | (rw [if_pos]; rotate_left; omega) | (rw [if_neg]; rotate_left; omega))); omega⟩ dX13_line_62
    ·
      rcases Classical.em (k = 1) with h20 | h20
      · refine lv_tableIn (off := 51) (tgt := 63) hx hb dX13_line_12 (by rw [h20]; decide) (by rw [h20]; decide) (by rw [h20]; decide) (by decide) ?_
        have b21 : (k).toInt = 1 := by rw [h20]; decide
        refine lv_aload_n hx hb dX13_line_63 rfl (lv_at hl 0 rfl) ?_
        refine hp_get (v := .ref (q + 11)) hx hb hts hown hZ hc0 fl_X13_32 rfl dX13_line_64 ?_
        refine lv_iload_n hx hb dX13_line_67 rfl (lv_at hl 1 rfl) ?_
        obtain ⟨rf22, hrf23⟩ : ∃ f : Nat → Int32, f = rh 11 := ⟨_, rfl⟩
        have ea24 : V (q + 11) = some (.inl (cs 1, 120, .inl (rf22))) := by rw [hrf23]; exact hp0 11 (by decide)
        have hra25 := hq_rg hP (hr_11 hR) ea24
        refine hp_iald hx hb hZ ea24 (hq_in (by omega) (by omega)) dX13_line_68 ?_
        refine lv_topi (fun y26 ey27 => ?_)
        have b28 := hq_rng y26
        have b29 : (y26).toInt = (rh 11 (v).toNatClampNeg).toInt := by rw [ey27, hrf23]
        exact hp_iret hx hb hr hlocks hZ ⟨rfl, rfl, by rw [sp_lnt_i (b := bk) (v := v.toInt) (k := k.toInt) (by omega) hx9]; unfold sp_lnx; (repeat (first | (rw [if_pos]; rotate_left; omega) | (rw [if_neg]; rotate_left; omega))); omega⟩ dX13_line_69
      ·
        rcases Classical.em (k = 2) with h30 | h30
        · refine lv_tableIn (off := 58) (tgt := 70) hx hb dX13_line_12 (by rw [h30]; decide) (by rw [h30]; decide) (by rw [h30]; decide) (by decide) ?_
          have b31 : (k).toInt = 2 := by rw [h30]; decide
          refine lv_aload_n hx hb dX13_line_70 rfl (lv_at hl 0 rfl) ?_
          refine hp_get (v := .ref (q + 12)) hx hb hts hown hZ hc0 fl_X13_35 rfl dX13_line_71 ?_
          refine lv_iload_n hx hb dX13_line_74 rfl (lv_at hl 1 rfl) ?_
          obtain ⟨rf32, hrf33⟩ : ∃ f : Nat → Int32, f = rh 12 := ⟨_, rfl⟩
          have ea34 : V (q + 12) = some (.inl (cs 1, 120, .inl (rf32))) := by rw [hrf33]; exact hp0 12 (by decide)
          have hra35 := hq_rg hP (hr_12 hR) ea34
          refine hp_iald hx hb hZ ea34 (hq_in (by omega) (by omega)) dX13_line_75 ?_
          refine lv_topi (fun y36 ey37 => ?_)
          have b38 := hq_rng y36
          have b39 : (y36).toInt = (rh 12 (v).toNatClampNeg).toInt := by rw [ey37, hrf33]
          exact hp_iret hx hb hr hlocks hZ ⟨rfl, rfl, by rw [sp_lnt_i (b := bk) (v := v.toInt) (k := k.toInt) (by omega) hx9]; unfold sp_lnx; (repeat (first | (rw [if_pos]; rotate_left; omega) | (rw [if_neg]; rotate_left; omega))); omega⟩ dX13_line_76
        ·
          rcases Classical.em (k = 3) with h40 | h40
          · refine lv_tableIn (off := 65) (tgt := 77) hx hb dX13_line_12 (by rw [h40]; decide) (by rw [h40]; decide) (by rw [h40]; decide) (by decide) ?_
            have b41 : (k).toInt = 3 := by rw [h40]; decide
            refine lv_aload_n hx hb dX13_line_77 rfl (lv_at hl 0 rfl) ?_
            refine hp_get (v := .ref (q + 13)) hx hb hts hown hZ hc0 fl_X13_38 rfl dX13_line_78 ?_
            refine lv_iload_n hx hb dX13_line_81 rfl (lv_at hl 1 rfl) ?_
            obtain ⟨rf42, hrf43⟩ : ∃ f : Nat → Int32, f = rh 13 := ⟨_, rfl⟩
            have ea44 : V (q + 13) = some (.inl (cs 1, 120, .inl (rf42))) := by rw [hrf43]; exact hp0 13 (by decide)
            have hra45 := hq_rg hP (hr_13 hR) ea44
            refine hp_iald hx hb hZ ea44 (hq_in (by omega) (by omega)) dX13_line_82 ?_
            refine lv_topi (fun y46 ey47 => ?_)
            have b48 := hq_rng y46
            have b49 : (y46).toInt = (rh 13 (v).toNatClampNeg).toInt := by rw [ey47, hrf43]
            exact hp_iret hx hb hr hlocks hZ ⟨rfl, rfl, by rw [sp_lnt_i (b := bk) (v := v.toInt) (k := k.toInt) (by omega) hx9]; unfold sp_lnx; (repeat (first | (rw [if_pos]; rotate_left; omega) | (rw [if_neg]; rotate_left; omega))); omega⟩ dX13_line_83
          ·
            rcases Classical.em (k = 4) with h50 | h50
            · refine lv_tableIn (off := 72) (tgt := 84) hx hb dX13_line_12 (by rw [h50]; decide) (by rw [h50]; decide) (by rw [h50]; decide) (by decide) ?_
              have b51 : (k).toInt = 4 := by rw [h50]; decide
              refine lv_aload_n hx hb dX13_line_84 rfl (lv_at hl 0 rfl) ?_
              refine hp_get (v := .ref (q + 14)) hx hb hts hown hZ hc0 fl_X13_41 rfl dX13_line_85 ?_
              refine lv_iload_n hx hb dX13_line_88 rfl (lv_at hl 1 rfl) ?_
              obtain ⟨rf52, hrf53⟩ : ∃ f : Nat → Int32, f = rh 14 := ⟨_, rfl⟩
              have ea54 : V (q + 14) = some (.inl (cs 1, 120, .inl (rf52))) := by rw [hrf53]; exact hp0 14 (by decide)
              have hra55 := hq_rg hP (hr_14 hR) ea54
              refine hp_iald hx hb hZ ea54 (hq_in (by omega) (by omega)) dX13_line_89 ?_
              refine lv_topi (fun y56 ey57 => ?_)
              have b58 : hq_ir (hq_lo 1) (hq_hi 1) y56 := by rw [ey57]; exact hra55 _ (hq_ix (by omega) (by omega))
              have b58 : 0 ≤ (y56).toInt ∧ (y56).toInt ≤ 8 := b58
              have b59 : (y56).toInt = (rh 14 (v).toNatClampNeg).toInt := by rw [ey57, hrf53]
              exact hp_iret hx hb hr hlocks hZ ⟨rfl, rfl, by rw [sp_lnt_i (b := bk) (v := v.toInt) (k := k.toInt) (by omega) hx9]; unfold sp_lnx; (repeat (first | (rw [if_pos]; rotate_left; omega) | (rw [if_neg]; rotate_left; omega))); omega⟩ dX13_line_90
            ·
              rcases Classical.em (k = 5) with h60 | h60
              · refine lv_tableIn (off := 79) (tgt := 91) hx hb dX13_line_12 (by rw [h60]; decide) (by rw [h60]; decide) (by rw [h60]; decide) (by decide) ?_
                have b61 : (k).toInt = 5 := by rw [h60]; decide
                refine lv_aload_n hx hb dX13_line_91 rfl (lv_at hl 0 rfl) ?_
                refine hp_get (v := .ref (q + 15)) hx hb hts hown hZ hc0 fl_X13_44 rfl dX13_line_92 ?_
                refine lv_iload_n hx hb dX13_line_95 rfl (lv_at hl 1 rfl) ?_
                obtain ⟨rf62, hrf63⟩ : ∃ f : Nat → Int32, f = rh 15 := ⟨_, rfl⟩
                have ea64 : V (q + 15) = some (.inl (cs 1, 120, .inl (rf62))) := by rw [hrf63]; exact hp0 15 (by decide)
                have hra65 := hq_rg hP (hr_15 hR) ea64
                refine hp_iald hx hb hZ ea64 (hq_in (by omega) (by omega)) dX13_line_96 ?_
                refine lv_topi (fun y66 ey67 => ?_)
                have b68 : hq_ir (hq_lo 1) (hq_hi 1) y66 := by rw [ey67]; exact hra65 _ (hq_ix (by omega) (by omega))
                have b68 : 0 ≤ (y66).toInt ∧ (y66).toInt ≤ 8 := b68
                have b69 : (y66).toInt = (rh 15 (v).toNatClampNeg).toInt := by rw [ey67, hrf63]
                exact hp_iret hx hb hr hlocks hZ ⟨rfl, rfl, by rw [sp_lnt_i (b := bk) (v := v.toInt) (k := k.toInt) (by omega) hx9]; unfold sp_lnx; (repeat (first | (rw [if_pos]; rotate_left; omega) | (rw [if_neg]; rotate_left; omega))); omega⟩ dX13_line_97
              ·
                rcases Classical.em (k = 6) with h70 | h70
                · refine lv_tableIn (off := 86) (tgt := 98) hx hb dX13_line_12 (by rw [h70]; decide) (by rw [h70]; decide) (by rw [h70]; decide) (by decide) ?_
                  have b71 : (k).toInt = 6 := by rw [h70]; decide
                  refine lv_aload_n hx hb dX13_line_98 rfl (lv_at hl 0 rfl) ?_
                  refine hp_get (v := .ref (q + 16)) hx hb hts hown hZ hc0 fl_X13_47 rfl dX13_line_99 ?_
                  refine lv_iload_n hx hb dX13_line_102 rfl (lv_at hl 1 rfl) ?_
                  obtain ⟨rf72, hrf73⟩ : ∃ f : Nat → Int32, f = rh 16 := ⟨_, rfl⟩
                  have ea74 : V (q + 16) = some (.inl (cs 1, 120, .inl (rf72))) := by rw [hrf73]; exact hp0 16 (by decide)
                  have hra75 := hq_rg hP (hr_16 hR) ea74
                  refine hp_iald hx hb hZ ea74 (hq_in (by omega) (by omega)) dX13_line_103 ?_
                  refine lv_topi (fun y76 ey77 => ?_)
                  have b78 : hq_ir (hq_lo 3) (hq_hi 3) y76 := by rw [ey77]; exact hra75 _ (hq_ix (by omega) (by omega))
                  have b78 : 0 ≤ (y76).toInt ∧ (y76).toInt ≤ 29 := b78
                  have b79 : (y76).toInt = (rh 16 (v).toNatClampNeg).toInt := by rw [ey77, hrf73]
                  exact hp_iret hx hb hr hlocks hZ ⟨rfl, rfl, by rw [sp_lnt_i (b := bk) (v := v.toInt) (k := k.toInt) (by omega) hx9]; unfold sp_lnx; (repeat (first | (rw [if_pos]; rotate_left; omega) | (rw [if_neg]; rotate_left; omega))); omega⟩ dX13_line_104
                ·
                  have z80 : ¬ (k).toInt = 0 := lv_neT h10 (by decide)
                  have z81 : ¬ (k).toInt = 1 := lv_neT h20 (by decide)
                  have z82 : ¬ (k).toInt = 2 := lv_neT h30 (by decide)
                  have z83 : ¬ (k).toInt = 3 := lv_neT h40 (by decide)
                  have z84 : ¬ (k).toInt = 4 := lv_neT h50 (by decide)
                  have z85 : ¬ (k).toInt = 5 := lv_neT h60 (by decide)
                  have z86 : ¬ (k).toInt = 6 := lv_neT h70 (by decide)
                  refine lv_tableOut (tgt := 105) hx hb dX13_line_12 (by omega) (by decide) ?_
                  refine lv_bipush (v := -9) hx hb dX13_line_105 (by decide) ?_
                  have hl87 : (-9 : Int32).toInt = -9 := by decide
                  have hl9 : (-9 : Int32).toInt = -9 := by decide
                  exact hp_iret hx hb hr hlocks hZ ⟨rfl, rfl, by rw [sp_lnt_i (b := bk) (v := v.toInt) (k := k.toInt) (by omega) hx9]; unfold sp_lnx; (repeat (first | (rw [if_pos]; rotate_left; omega) | (rw [if_neg]; rotate_left; omega))); omega⟩ dX13_line_107
  · have c9 : (r4).toInt = (0 : Int) := hq_eqi.mp c9
    refine lv_bipush (v := -9) hx hb dX13_line_8 (by decide) ?_
    have hl88 : (-9 : Int32).toInt = -9 := by decide
    have hl9 : (-9 : Int32).toInt = -9 := by decide
    exact hp_iret hx hb hr hlocks hZ ⟨rfl, rfl, by rw [sp_lnt_o (b := bk) (v := v.toInt) (k := k.toInt) (by omega)]; omega⟩ dX13_line_10

set_option maxHeartbeats 4000000 in
set_option maxRecDepth 100000 in
theorem x_explain (l : Launch) (D : va_G) (cs : Nat → ClassId) (B : Nat) (G : hq_G) (V : hp_V) (n : Nat) (hI : hq_I cs G V) (kb : Nat) (qt : Nat) (md : Nat) (mh : Nat) (pt : Nat) (ch : Nat) (bb : Nat) (t9 : Nat) (w : sp_W) (bk : sp_B) (ask : List Int) (c9 : Int) (ex : Int) (os : Int) (oe : Int) (qq : Int) (v : Int32) (te : Int32) (pe : Int32) (e_fd : Int32) (e_sz : Int32) (mw : Int32) (bc : Int32) (bv : Int32) (bl : Int32) (e_bk : Value) (e_an : Value) (e_mk : Value) (bz0 : Int32) (bz1 : Int32) (bz2 : Int32) (bz3 : Int32) (bz4 : Int32) (bz5 : Int32) (bz6 : Int32) (tz0 : Int32) (tz1 : Int32) (tz2 : Int32) (tz3 : Int32) (tz4 : Int32) (tz5 : Int32) (tz6 : Int32) (sz : Int32) (sf_ : Nat → Int32) (ez : Int32) (ef : Nat → Int32) (wz_ : Int32) (wf_ : Nat → Int32) (pz : Int32) (pf : Nat → Int32) (cz : Int32) (cf : Nat → Int32) (vf : Nat → Int32) (kk : Nat → Int32) (mm : Nat → Int32) (tt_ : Nat → Int32) (hy0 : G (kb + 50) = some (14, 0, 0, 0)) (hy1 : G (kb + 51) = some (13, 0, 0, 0)) (hy2 : G (kb + 52) = some (13, 0, 0, 0)) (hy3 : G (kb + 55) = some (0, 30, 0, 0)) (hy4 : G (kb + 56) = some (1, 30, 0, 0)) (hy5 : G (kb + 57) = some (0, 30, 0, 0)) (hy6 : G (kb + 58) = some (1, 30, 0, 0)) (hy7 : G (kb) = some (0, 4000, 0, 0)) (hy8 : G (kb + 1) = some (1, 4000, 0, 0)) (hy9 : G (kb + 5) = some (11, 0, 0, 0)) (hy10 : G (md) = some (8, 4, 0, 0)) (hy11 : G (mh) = some (8, 2, 0, 0)) (hy12 : G (pt) = some (8, 2, 0, 0)) (hy13 : G (ch) = some (0, 30, 0, 0)) (hy14 : G (ch + 1) = some (1, 30, 0, 0)) (hy15 : G (kb + 53) = some (0, 30, 0, 0)) (hy16 : G (kb + 54) = some (1, 30, 0, 0)) (hy17 : G (kb + 59) = some (2, 8, 2, 0)) (hy18 : G (kb + 60) = some (2, 8, 2, 0)) (hy19 : G (kb + 61) = some (2, 8, 2, 0)) (hc0 : V (kb + 50) = some (.inr (1, [.ref (kb + 51), .ref (kb + 52), .int (e_fd), .ref (kb + 53), .ref (kb + 55), .ref (kb + 57), e_bk, e_an, e_mk, .int (e_sz), .ref (kb + 59), .ref (kb + 60), .ref (kb + 61)]))) (hc1 : V (kb + 51) = some (.inr (10, [.int (bz0), .int (bz1), .int (bz2), .int (bz3), .int (bz4), .int (bz5), .int (bz6)]))) (hc2 : V (kb + 52) = some (.inr (10, [.int (tz0), .int (tz1), .int (tz2), .int (tz3), .int (tz4), .int (tz5), .int (tz6)]))) (hc3 : V (kb + 53) = some (.inr (9, [.ref (kb + 53 + 1), .int (sz)]))) (hc4 : V (kb + 54) = some (.inl (cs 0, 30, .inl (sf_)))) (hc5 : V (kb + 55) = some (.inr (9, [.ref (kb + 55 + 1), .int (ez)]))) (hc6 : V (kb + 56) = some (.inl (cs 0, 30, .inl (ef)))) (hc7 : V (kb + 57) = some (.inr (9, [.ref (kb + 57 + 1), .int (wz_)]))) (hc8 : V (kb + 58) = some (.inl (cs 0, 30, .inl (wf_)))) (hc9 : V (kb) = some (.inr (9, [.ref (kb + 1), .int (pz)]))) (hc10 : V (kb + 1) = some (.inl (cs 0, 4000, .inl (pf)))) (hc11 : V (kb + 5) = some (.inr (6, [.ref (md), .int (mw), .ref (mh), .ref (pt), .ref (ch)]))) (hc12 : V (ch) = some (.inr (9, [.ref (ch + 1), .int (cz)]))) (hc13 : V (ch + 1) = some (.inl (cs 0, 30, .inl (cf)))) (hc14 : V (qt) = some (.inr (0, [.ref (qt + 1), .int (bc), .ref (qt + 14), .ref (qt + 75), .int (bv), .ref (qt + 76), .int (bl)]))) (hc15 : V (qt + 75) = some (.inl (cs 1, 30, .inl (vf)))) (hc16 : V (kb + 59) = some (.inl (cs 1, 2, .inl (kk)))) (hc17 : V (kb + 60) = some (.inl (cs 1, 2, .inl (mm)))) (hc18 : V (kb + 61) = some (.inl (cs 1, 2, .inl (tt_)))) (hp0 : hx_LL cs V (qt + 77) w bk.2.2.2) (hp1 : hx_NL cs V (qt + 15) 30 w bk.2.1) (hp2 : hx_BS cs V qt) (hbl : bl.toInt = (bk.2.2.2.length : Int)) (hgd : sp_good w bk) (hgd2 : sp_good2 bk) (hBT : hx_BT G qt bb) (hask : sp_rp pz pf ask) (ht9 : bk.2.1[v.toNatClampNeg]? = some t9) (hv : 0 ≤ v.toInt ∧ v.toInt < 30) (hcv9 : (vf v.toNatClampNeg).toInt = c9) (hg8 : sp_g8 w bk) (hnl : (sp_nm w t9).length ≤ 12) (hex : (sp_nf 4 v.toInt c9 te.toInt pe.toInt bk.2.2.2 0) = ex) (hos : (sp_nf 0 v.toInt c9 te.toInt pe.toInt bk.2.2.2 0) = os) (hoe : (sp_nf 1 v.toInt c9 te.toInt pe.toInt bk.2.2.2 0) = oe) (hqq : (ex = -1 ∧ qq = 0) ∨ (¬ ex = -1 ∧ qq = 1)) (hlen : pz.toInt ≤ 4000 ∧ (0 ≤ sz.toInt ∧ sz.toInt ≤ 30) ∧ (0 ≤ ez.toInt ∧ ez.toInt ≤ 30) ∧ (0 ≤ wz_.toInt ∧ wz_.toInt ≤ 30) ∧ (0 ≤ cz.toInt ∧ cz.toInt ≤ 30)) (hne : kb + 61 < qt) (hsh : md = kb + 6 ∧ mh = kb + 24 ∧ pt = kb + 34 ∧ ch = kb + 44) (hes : 0 ≤ e_sz.toInt ∧ e_sz.toInt ≤ 2) (hb60 : (bk.2.2.2.length : Int) ≤ 60) : hp_M l yX1_explain cX1_explain 9 (some .boolean) ({ frames := 7, cells := 0, slots := 0, locals := 170 }) D cs B V n [.ref (kb + 50), .ref (qt), .ref (kb), .ref (kb + 5), .int (v), .int (te), .int (pe)] (hp_QI D cs B (fun r V' n' => n = n' ∧ hq_P cs G (fun _ => true) V V' ∧ (∀ x, x ≠ kb + 50 → x ≠ kb + 51 → x ≠ kb + 52 → x ≠ kb + 53 → x ≠ kb + 54 → x ≠ kb + 55 → x ≠ kb + 56 → x ≠ kb + 5 → x ≠ kb + 57 → x ≠ kb + 58 → x ≠ ch → x ≠ ch + 1 → x ≠ kb + 59 → x ≠ kb + 60 → x ≠ kb + 61 → V' x = V x) ∧ (∃ e_fd1 : Int32, ∃ bw0 : Int32, ∃ bw1 : Int32, ∃ bw2 : Int32, ∃ bw3 : Int32, ∃ bw4 : Int32, ∃ bw5 : Int32, ∃ bw6 : Int32, ∃ tw0 : Int32, ∃ tw1 : Int32, ∃ tw2 : Int32, ∃ tw3 : Int32, ∃ tw4 : Int32, ∃ tw5 : Int32, ∃ tw6 : Int32, ∃ sz1 : Int32, ∃ sf1 : Nat → Int32, ∃ ez1 : Int32, ∃ ef1 : Nat → Int32, ∃ mw1 : Int32, ∃ wz1 : Int32, ∃ wf1 : Nat → Int32, ∃ cz1 : Int32, ∃ cf1 : Nat → Int32, ∃ e_sz1 : Int32, ∃ kk1 : Nat → Int32, ∃ mm1 : Nat → Int32, ∃ tt1 : Nat → Int32, V' (kb + 50) = some (.inr (1, [.ref (kb + 51), .ref (kb + 52), .int (e_fd1), .ref (kb + 53), .ref (kb + 55), .ref (kb + 57), .ref (qt), .ref (kb), .ref (kb + 5), .int (e_sz1), .ref (kb + 59), .ref (kb + 60), .ref (kb + 61)])) ∧ V' (kb + 51) = some (.inr (10, [.int (bw0), .int (bw1), .int (bw2), .int (bw3), .int (bw4), .int (bw5), .int (bw6)])) ∧ V' (kb + 52) = some (.inr (10, [.int (tw0), .int (tw1), .int (tw2), .int (tw3), .int (tw4), .int (tw5), .int (tw6)])) ∧ V' (kb + 53) = some (.inr (9, [.ref (kb + 53 + 1), .int (sz1)])) ∧ V' (kb + 54) = some (.inl (cs 0, 30, .inl (sf1))) ∧ V' (kb + 55) = some (.inr (9, [.ref (kb + 55 + 1), .int (ez1)])) ∧ V' (kb + 56) = some (.inl (cs 0, 30, .inl (ef1))) ∧ V' (kb + 5) = some (.inr (6, [.ref (md), .int (mw1), .ref (mh), .ref (pt), .ref (ch)])) ∧ V' (kb + 57) = some (.inr (9, [.ref (kb + 57 + 1), .int (wz1)])) ∧ V' (kb + 58) = some (.inl (cs 0, 30, .inl (wf1))) ∧ V' (ch) = some (.inr (9, [.ref (ch + 1), .int (cz1)])) ∧ V' (ch + 1) = some (.inl (cs 0, 30, .inl (cf1))) ∧ V' (kb + 59) = some (.inl (cs 1, 2, .inl (kk1))) ∧ V' (kb + 60) = some (.inl (cs 1, 2, .inl (mm1))) ∧ V' (kb + 61) = some (.inl (cs 1, 2, .inl (tt1))) ∧ ((r.toInt = 1 ∧ ¬ (sp_tr (sp_M w bk.2.2.2 (sp_U w bk (sp_nm w t9)) ask) ((1000, 9, 0, 0, 0, 0) : sp_Y) (sp_wx bk.2.2.2 qq os oe)).1 = 1000 ∧ sp_hl e_sz1 kk1 mm1 tt1 (sp_tel ex os oe (sp_tr (sp_M w bk.2.2.2 (sp_U w bk (sp_nm w t9)) ask) ((1000, 9, 0, 0, 0, 0) : sp_Y) (sp_wx bk.2.2.2 qq os oe)).2.2.1 (sp_tr (sp_M w bk.2.2.2 (sp_U w bk (sp_nm w t9)) ask) ((1000, 9, 0, 0, 0, 0) : sp_Y) (sp_wx bk.2.2.2 qq os oe)).2.2.2.1 (sp_tr (sp_M w bk.2.2.2 (sp_U w bk (sp_nm w t9)) ask) ((1000, 9, 0, 0, 0, 0) : sp_Y) (sp_wx bk.2.2.2 qq os oe)).2.2.2.2.1 (sp_tr (sp_M w bk.2.2.2 (sp_U w bk (sp_nm w t9)) ask) ((1000, 9, 0, 0, 0, 0) : sp_Y) (sp_wx bk.2.2.2 qq os oe)).2.2.2.2.2)) ∨ (r.toInt = 0 ∧ (sp_tr (sp_M w bk.2.2.2 (sp_U w bk (sp_nm w t9)) ask) ((1000, 9, 0, 0, 0, 0) : sp_Y) (sp_wx bk.2.2.2 qq os oe)).1 = 1000 ∧ e_sz1 = e_sz ∧ kk1 = kk ∧ mm1 = mm ∧ tt1 = tt_)) ∧ ((0 ≤ e_fd1.toInt ∧ e_fd1.toInt ≤ 1) ∧ (0 ≤ e_sz1.toInt ∧ e_sz1.toInt ≤ 2))))) 0 0 := by
  refine hp_walk (R0 := RX1) (by decide) rfl ?_ (Nat.le_of_ble_eq_true rfl)
  intro p e s m below meth c ls hx hb hr hts hown hlocks hin hml hZ hl
  have hP : hq_P cs G (fun _ => true) V V := hq_P.rf hI
  have hl : lv_has ls 9 [(0, .ref (kb + 50)), (1, .ref (qt)), (2, .ref (kb)), (3, .ref (kb + 5)), (4, .int (v)), (5, .int (te)), (6, .int (pe))] := hl
  have hb_v := hq_rng v
  have hb_te := hq_rng te
  have hb_pe := hq_rng pe
  have hb_e_fd := hq_rng e_fd
  have hb_e_sz := hq_rng e_sz
  have hb_mw := hq_rng mw
  have hb_bc := hq_rng bc
  have hb_bv := hq_rng bv
  have hb_bl := hq_rng bl
  have hb_bz0 := hq_rng bz0
  have hb_bz1 := hq_rng bz1
  have hb_bz2 := hq_rng bz2
  have hb_bz3 := hq_rng bz3
  have hb_bz4 := hq_rng bz4
  have hb_bz5 := hq_rng bz5
  have hb_bz6 := hq_rng bz6
  have hb_tz0 := hq_rng tz0
  have hb_tz1 := hq_rng tz1
  have hb_tz2 := hq_rng tz2
  have hb_tz3 := hq_rng tz3
  have hb_tz4 := hq_rng tz4
  have hb_tz5 := hq_rng tz5
  have hb_tz6 := hq_rng tz6
  have hb_sz := hq_rng sz
  have hb_ez := hq_rng ez
  have hb_wz_ := hq_rng wz_
  have hb_pz := hq_rng pz
  have hb_cz := hq_rng cz
  have hf_4 := hq_rgB hI hy16 hc4
  have hf_6 := hq_rgB hI hy4 hc6
  have hf_8 := hq_rgB hI hy6 hc8
  have hf_10 := hq_rgB hI hy8 hc10
  have hf_13 := hq_rgB hI hy14 hc13
  have hf_16 := hq_rg2 hI hy17 hc16
  have hf_17 := hq_rg2 hI hy18 hc17
  have hf_18 := hq_rg2 hI hy19 hc18
  obtain ⟨⟨g1, hg1, hr1⟩, ⟨g2, hg2, hr2⟩, ⟨g3, hg3, hr3⟩⟩ := id hp2
  have hll9 := hp0.1
  have ha1 := hask.1
  obtain ⟨hq1, hq2, hq3, hq4, hq5⟩ := hlen
  have hlv := (List.getElem?_eq_some_iff.mp ht9).1
  have hb60n : bk.2.2.2.length ≤ 60 := by omega
  obtain ⟨hw13, hw14⟩ := hq_b13 hI hy2 hc2
  refine lv_aload_n hx hb dX1_explain_0 rfl (lv_at hl 0 rfl) ?_
  refine lv_aload_n hx hb dX1_explain_1 rfl (lv_at hl 1 rfl) ?_
  refine hp_put hx hb hts hown hZ hc0 fp_X1_50 rfl rfl (Nat.le_of_ble_eq_true rfl) dX1_explain_2 (fun V1 _ _ e2 o3 hZ => ?_)
  have e2 : V1 (kb + 50) = some (.inr (1, [.ref (kb + 51), .ref (kb + 52), .int (e_fd), .ref (kb + 53), .ref (kb + 55), .ref (kb + 57), .ref (qt), e_an, e_mk, .int (e_sz), .ref (kb + 59), .ref (kb + 60), .ref (kb + 61)])) := e2
  have hP := hP.put hy0 e2 o3 (trivial) rfl
  refine lv_aload_n hx hb dX1_explain_5 rfl (lv_at hl 0 rfl) ?_
  refine lv_aload_n hx hb dX1_explain_6 rfl (lv_at hl 2 rfl) ?_
  refine hp_put hx hb hts hown hZ e2 fp_X1_54 rfl rfl (Nat.le_of_ble_eq_true rfl) dX1_explain_7 (fun V4 _ _ e5 o6 hZ => ?_)
  have e5 : V4 (kb + 50) = some (.inr (1, [.ref (kb + 51), .ref (kb + 52), .int (e_fd), .ref (kb + 53), .ref (kb + 55), .ref (kb + 57), .ref (qt), .ref (kb), e_mk, .int (e_sz), .ref (kb + 59), .ref (kb + 60), .ref (kb + 61)])) := e5
  have hP := hP.put hy0 e5 o6 (trivial) rfl
  refine lv_aload_n hx hb dX1_explain_10 rfl (lv_at hl 0 rfl) ?_
  refine lv_aload_n hx hb dX1_explain_11 rfl (lv_at hl 3 rfl) ?_
  refine hp_put hx hb hts hown hZ e5 fp_X1_57 rfl rfl (Nat.le_of_ble_eq_true rfl) dX1_explain_12 (fun V7 _ _ e8 o9 hZ => ?_)
  have e8 : V7 (kb + 50) = some (.inr (1, [.ref (kb + 51), .ref (kb + 52), .int (e_fd), .ref (kb + 53), .ref (kb + 55), .ref (kb + 57), .ref (qt), .ref (kb), .ref (kb + 5), .int (e_sz), .ref (kb + 59), .ref (kb + 60), .ref (kb + 61)])) := e8
  have hP := hP.put hy0 e8 o9 (trivial) rfl
  refine lv_aload_n hx hb dX1_explain_15 rfl (lv_at hl 0 rfl) ?_
  refine hp_get (v := .ref (kb + 52)) hx hb hts hown hZ e8 fl_X1_18 rfl dX1_explain_16 ?_
  refine lv_aload_n hx hb dX1_explain_19 rfl (lv_at hl 0 rfl) ?_
  refine hp_get (v := .ref (qt)) hx hb hts hown hZ e8 fl_X1_50 rfl dX1_explain_20 ?_
  refine lv_iconst (v := 4) hx hb dX1_explain_23 (by decide) ?_
  refine lv_iconst (v := 0) hx hb dX1_explain_24 (by decide) ?_
  refine lv_iload hx hb dX1_explain_25 (lv_at hl 4 rfl) ?_
  refine lv_iload hx hb dX1_explain_27 (lv_at hl 5 rfl) ?_
  refine lv_iload hx hb dX1_explain_29 (lv_at hl 6 rfl) ?_
  have fx10 : V7 (qt) = some (.inr (0, [.ref (qt + 1), .int (bc), .ref (qt + 14), .ref (qt + 75), .int (bv), .ref (qt + 76), .int (bl)])) := (o9 (qt) (hq_nk0 hne (by decide))).trans ((o6 (qt) (hq_nk0 hne (by decide))).trans ((o3 (qt) (hq_nk0 hne (by decide))).trans (hc14)))
  have fx11 : V7 (qt + 75) = some (.inl (cs 1, 30, .inl (vf))) := (o9 (qt + 75) (hq_nkj hne (by decide))).trans ((o6 (qt + 75) (hq_nkj hne (by decide))).trans ((o3 (qt + 75) (hq_nkj hne (by decide))).trans (hc15)))
  have hl12 : (4 : Int32).toInt = 4 := by decide
  have hl13 : (0 : Int32).toInt = 0 := by decide
  have pk14 := hp0.keep (fun x7 (hx7 : qt + 77 ≤ x7 ∧ x7 < qt + 77 + 5 * bk.2.2.2.length) => (o9 x7 (hq_nk hne hx7.1 (by decide))).trans ((o6 x7 (hq_nk hne hx7.1 (by decide))).trans (o3 x7 (hq_nk hne hx7.1 (by decide)))))
  have pk15 := hp2.keep ((o9 (qt + 1) (hq_nkj hne (by decide))).trans ((o6 (qt + 1) (hq_nkj hne (by decide))).trans (o3 (qt + 1) (hq_nkj hne (by decide))))) ((o9 (qt + 14) (hq_nkj hne (by decide))).trans ((o6 (qt + 14) (hq_nkj hne (by decide))).trans (o3 (qt + 14) (hq_nkj hne (by decide))))) ((o9 (qt + 76) (hq_nkj hne (by decide))).trans ((o6 (qt + 76) (hq_nkj hne (by decide))).trans (o3 (qt + 76) (hq_nkj hne (by decide)))))
  refine hp_calli (hp_runV (As := [.int (4), .int (0), .int (v), .int (te), .int (pe)]) (rest := [.ref (kb + 52)]) hx hb hml hown hts (x_nf l D cs B G V7 n hP.1 (qt) (c9) (w) (bk) (4) (0) (v) (te) (pe) (bc) (bv) (bl) (vf)  fx10 fx11 pk14 pk15 hbl (by omega) (by omega) hcv9) hZ fx10 cv_X1_61 rfl rfl ⟨Nat.le_of_ble_eq_true rfl, Nat.le_of_ble_eq_true rfl⟩ rfl hl.1 rfl (Nat.le_of_ble_eq_true rfl) dX1_explain_31 ⟨(Nat.le_of_ble_eq_true rfl), (Nat.le_of_ble_eq_true rfl)⟩) hZ (fun r19 V16 n17 _ _ hw18 hZ => ?_)
  obtain ⟨rfl, rfl, hp22⟩ := hw18
  have b23 := hq_rng r19
  have hf4 := hp22
  rw [show (4 : Int32).toInt = 4 by decide, show (0 : Int32).toNatClampNeg = 0 by decide, show (0 : Int32).toInt = 0 by decide, List.drop_zero, hex] at hf4
  have hrg4 := sp_nf_rg (k := 4) (v := v.toInt) (c := c9) (t := te.toInt) (p := pe.toInt) bk.2.2.2 0 (by omega)
  rw [hex] at hrg4
  have hrh4 : (r19).toInt = -1 ∨ (0 ≤ (r19).toInt ∧ (r19).toInt < (bk.2.2.2.length : Int)) := by rcases hrg4 with g9 | ⟨g8, g9, -⟩ <;> omega
  have hrq4 : -1 ≤ (r19).toInt ∧ (r19).toInt < (bk.2.2.2.length : Int) := by rcases hrh4 with g9 | g9 <;> omega
  have fx24 : V7 (kb + 52) = some (.inr (10, [.int (tz0), .int (tz1), .int (tz2), .int (tz3), .int (tz4), .int (tz5), .int (tz6)])) := (o9 (kb + 52) (hq_tne hy2 hy0 (by simp))).trans ((o6 (kb + 52) (hq_tne hy2 hy0 (by simp))).trans ((o3 (kb + 52) (hq_tne hy2 hy0 (by simp))).trans (hc2)))
  refine hp_put hx hb hts hown hZ fx24 fp_X1_67 rfl rfl (Nat.le_of_ble_eq_true rfl) dX1_explain_34 (fun V25 _ _ e26 o27 hZ => ?_)
  have e26 : V25 (kb + 52) = some (.inr (10, [.int (r19), .int (tz1), .int (tz2), .int (tz3), .int (tz4), .int (tz5), .int (tz6)])) := e26
  have hP := hP.put hy2 e26 o27 (hq_c13 (show -1 ≤ (tz1).toInt ∧ (tz1).toInt ≤ 59 by omega) (show -1 ≤ (tz2).toInt ∧ (tz2).toInt ≤ 59 by omega)) rfl
  refine lv_aload_n hx hb dX1_explain_37 rfl (lv_at hl 0 rfl) ?_
  have fx28 : V25 (kb + 50) = some (.inr (1, [.ref (kb + 51), .ref (kb + 52), .int (e_fd), .ref (kb + 53), .ref (kb + 55), .ref (kb + 57), .ref (qt), .ref (kb), .ref (kb + 5), .int (e_sz), .ref (kb + 59), .ref (kb + 60), .ref (kb + 61)])) := (o27 (kb + 50) (hq_tne hy0 hy2 (by simp))).trans (e8)
  refine hp_get (v := .ref (kb + 52)) hx hb hts hown hZ fx28 fl_X1_18 rfl dX1_explain_38 ?_
  refine lv_aload_n hx hb dX1_explain_41 rfl (lv_at hl 0 rfl) ?_
  refine hp_get (v := .ref (qt)) hx hb hts hown hZ fx28 fl_X1_50 rfl dX1_explain_42 ?_
  refine lv_iconst (v := 0) hx hb dX1_explain_45 (by decide) ?_
  refine lv_iconst (v := 0) hx hb dX1_explain_46 (by decide) ?_
  refine lv_iload hx hb dX1_explain_47 (lv_at hl 4 rfl) ?_
  refine lv_iload hx hb dX1_explain_49 (lv_at hl 5 rfl) ?_
  refine lv_iload hx hb dX1_explain_51 (lv_at hl 6 rfl) ?_
  have fx29 : V25 (qt) = some (.inr (0, [.ref (qt + 1), .int (bc), .ref (qt + 14), .ref (qt + 75), .int (bv), .ref (qt + 76), .int (bl)])) := (o27 (qt) (hq_nk0 hne (by decide))).trans (fx10)
  have fx30 : V25 (qt + 75) = some (.inl (cs 1, 30, .inl (vf))) := (o27 (qt + 75) (hq_nkj hne (by decide))).trans (fx11)
  have hl31 : (0 : Int32).toInt = 0 := by decide
  have hl32 : (0 : Int32).toInt = 0 := by decide
  have pk33 := pk14.keep (fun x7 (hx7 : qt + 77 ≤ x7 ∧ x7 < qt + 77 + 5 * bk.2.2.2.length) => o27 x7 (hq_nk hne hx7.1 (by decide)))
  have pk34 := pk15.keep (o27 (qt + 1) (hq_nkj hne (by decide))) (o27 (qt + 14) (hq_nkj hne (by decide))) (o27 (qt + 76) (hq_nkj hne (by decide)))
  refine hp_calli (hp_runV (As := [.int (0), .int (0), .int (v), .int (te), .int (pe)]) (rest := [.ref (kb + 52)]) hx hb hml hown hts (x_nf l D cs B G V25 n hP.1 (qt) (c9) (w) (bk) (0) (0) (v) (te) (pe) (bc) (bv) (bl) (vf)  fx29 fx30 pk33 pk34 hbl (by omega) (by omega) hcv9) hZ fx29 cv_X1_61 rfl rfl ⟨Nat.le_of_ble_eq_true rfl, Nat.le_of_ble_eq_true rfl⟩ rfl hl.1 rfl (Nat.le_of_ble_eq_true rfl) dX1_explain_53 ⟨(Nat.le_of_ble_eq_true rfl), (Nat.le_of_ble_eq_true rfl)⟩) hZ (fun r38 V35 n36 _ _ hw37 hZ => ?_)
  obtain ⟨rfl, rfl, hp41⟩ := hw37
  have b42 := hq_rng r38
  have hf0 := hp41
  rw [show (0 : Int32).toInt = 0 by decide, show (0 : Int32).toNatClampNeg = 0 by decide, List.drop_zero, hos] at hf0
  have hrg0 := sp_nf_rg (k := 0) (v := v.toInt) (c := c9) (t := te.toInt) (p := pe.toInt) bk.2.2.2 0 (by omega)
  rw [hos] at hrg0
  have hrh0 : (r38).toInt = -1 ∨ (0 ≤ (r38).toInt ∧ (r38).toInt < (bk.2.2.2.length : Int)) := by rcases hrg0 with g9 | ⟨g8, g9, -⟩ <;> omega
  have hrq0 : -1 ≤ (r38).toInt ∧ (r38).toInt < (bk.2.2.2.length : Int) := by rcases hrh0 with g9 | g9 <;> omega
  have hown0 : ∀ x, 0 ≤ (r38).toInt → bk.2.2.2[(r38).toInt.toNat]? = some x → x.1 = 0 := fun x9 h0 hx9 => by rcases hrg0 with g9 | ⟨g8, g9, x8, g7, g6⟩; (· omega); (· rw [show (os - 0).toNat = (r38).toInt.toNat by omega] at g7; cases g7.symm.trans hx9; exact g6.1)
  refine hp_put hx hb hts hown hZ e26 fp_X1_70 rfl rfl (Nat.le_of_ble_eq_true rfl) dX1_explain_56 (fun V43 _ _ e44 o45 hZ => ?_)
  have e44 : V43 (kb + 52) = some (.inr (10, [.int (r19), .int (r38), .int (tz2), .int (tz3), .int (tz4), .int (tz5), .int (tz6)])) := e44
  have hP := hP.put hy2 e44 o45 (hq_c13 (show -1 ≤ (r38).toInt ∧ (r38).toInt ≤ 59 by omega) (show -1 ≤ (tz2).toInt ∧ (tz2).toInt ≤ 59 by omega)) rfl
  refine lv_aload_n hx hb dX1_explain_59 rfl (lv_at hl 0 rfl) ?_
  have fx46 : V43 (kb + 50) = some (.inr (1, [.ref (kb + 51), .ref (kb + 52), .int (e_fd), .ref (kb + 53), .ref (kb + 55), .ref (kb + 57), .ref (qt), .ref (kb), .ref (kb + 5), .int (e_sz), .ref (kb + 59), .ref (kb + 60), .ref (kb + 61)])) := (o45 (kb + 50) (hq_tne hy0 hy2 (by simp))).trans (fx28)
  refine hp_get (v := .ref (kb + 52)) hx hb hts hown hZ fx46 fl_X1_18 rfl dX1_explain_60 ?_
  refine lv_aload_n hx hb dX1_explain_63 rfl (lv_at hl 0 rfl) ?_
  refine hp_get (v := .ref (qt)) hx hb hts hown hZ fx46 fl_X1_50 rfl dX1_explain_64 ?_
  refine lv_iconst (v := 1) hx hb dX1_explain_67 (by decide) ?_
  refine lv_iconst (v := 0) hx hb dX1_explain_68 (by decide) ?_
  refine lv_iload hx hb dX1_explain_69 (lv_at hl 4 rfl) ?_
  refine lv_iload hx hb dX1_explain_71 (lv_at hl 5 rfl) ?_
  refine lv_iload hx hb dX1_explain_73 (lv_at hl 6 rfl) ?_
  have fx47 : V43 (qt) = some (.inr (0, [.ref (qt + 1), .int (bc), .ref (qt + 14), .ref (qt + 75), .int (bv), .ref (qt + 76), .int (bl)])) := (o45 (qt) (hq_nk0 hne (by decide))).trans (fx29)
  have fx48 : V43 (qt + 75) = some (.inl (cs 1, 30, .inl (vf))) := (o45 (qt + 75) (hq_nkj hne (by decide))).trans (fx30)
  have hl49 : (1 : Int32).toInt = 1 := by decide
  have hl50 : (0 : Int32).toInt = 0 := by decide
  have pk51 := pk33.keep (fun x7 (hx7 : qt + 77 ≤ x7 ∧ x7 < qt + 77 + 5 * bk.2.2.2.length) => o45 x7 (hq_nk hne hx7.1 (by decide)))
  have pk52 := pk34.keep (o45 (qt + 1) (hq_nkj hne (by decide))) (o45 (qt + 14) (hq_nkj hne (by decide))) (o45 (qt + 76) (hq_nkj hne (by decide)))
  refine hp_calli (hp_runV (As := [.int (1), .int (0), .int (v), .int (te), .int (pe)]) (rest := [.ref (kb + 52)]) hx hb hml hown hts (x_nf l D cs B G V43 n hP.1 (qt) (c9) (w) (bk) (1) (0) (v) (te) (pe) (bc) (bv) (bl) (vf)  fx47 fx48 pk51 pk52 hbl (by omega) (by omega) hcv9) hZ fx47 cv_X1_61 rfl rfl ⟨Nat.le_of_ble_eq_true rfl, Nat.le_of_ble_eq_true rfl⟩ rfl hl.1 rfl (Nat.le_of_ble_eq_true rfl) dX1_explain_75 ⟨(Nat.le_of_ble_eq_true rfl), (Nat.le_of_ble_eq_true rfl)⟩) hZ (fun r56 V53 n54 _ _ hw55 hZ => ?_)
  obtain ⟨rfl, rfl, hp59⟩ := hw55
  have b60 := hq_rng r56
  have hf1 := hp59
  rw [show (1 : Int32).toInt = 1 by decide, show (0 : Int32).toNatClampNeg = 0 by decide, show (0 : Int32).toInt = 0 by decide, List.drop_zero, hoe] at hf1
  have hrg1 := sp_nf_rg (k := 1) (v := v.toInt) (c := c9) (t := te.toInt) (p := pe.toInt) bk.2.2.2 0 (by omega)
  rw [hoe] at hrg1
  have hrh1 : (r56).toInt = -1 ∨ (0 ≤ (r56).toInt ∧ (r56).toInt < (bk.2.2.2.length : Int)) := by rcases hrg1 with g9 | ⟨g8, g9, -⟩ <;> omega
  have hrq1 : -1 ≤ (r56).toInt ∧ (r56).toInt < (bk.2.2.2.length : Int) := by rcases hrh1 with g9 | g9 <;> omega
  refine hp_put hx hb hts hown hZ e44 fp_X1_73 rfl rfl (Nat.le_of_ble_eq_true rfl) dX1_explain_78 (fun V61 _ _ e62 o63 hZ => ?_)
  have e62 : V61 (kb + 52) = some (.inr (10, [.int (r19), .int (r38), .int (r56), .int (tz3), .int (tz4), .int (tz5), .int (tz6)])) := e62
  have hP := hP.put hy2 e62 o63 (hq_c13 (show -1 ≤ (r38).toInt ∧ (r38).toInt ≤ 59 by omega) (show -1 ≤ (r56).toInt ∧ (r56).toInt ≤ 59 by omega)) rfl
  refine lv_aload_n hx hb dX1_explain_81 rfl (lv_at hl 0 rfl) ?_
  refine lv_iconst (v := 0) hx hb dX1_explain_82 (by decide) ?_
  have fx64 : V61 (kb + 50) = some (.inr (1, [.ref (kb + 51), .ref (kb + 52), .int (e_fd), .ref (kb + 53), .ref (kb + 55), .ref (kb + 57), .ref (qt), .ref (kb), .ref (kb + 5), .int (e_sz), .ref (kb + 59), .ref (kb + 60), .ref (kb + 61)])) := (o63 (kb + 50) (hq_tne hy0 hy2 (by simp))).trans (fx46)
  refine hp_put hx hb hts hown hZ fx64 fp_X1_76 rfl rfl (Nat.le_of_ble_eq_true rfl) dX1_explain_83 (fun V65 _ _ e66 o67 hZ => ?_)
  have e66 : V65 (kb + 50) = some (.inr (1, [.ref (kb + 51), .ref (kb + 52), .int (0), .ref (kb + 53), .ref (kb + 55), .ref (kb + 57), .ref (qt), .ref (kb), .ref (kb + 5), .int (e_sz), .ref (kb + 59), .ref (kb + 60), .ref (kb + 61)])) := e66
  have hP := hP.put hy0 e66 o67 (trivial) rfl
  have fx68 : V65 (kb + 52) = some (.inr (10, [.int (r19), .int (r38), .int (r56), .int (tz3), .int (tz4), .int (tz5), .int (tz6)])) := (o67 (kb + 52) (hq_tne hy2 hy0 (by simp))).trans (e62)
  have hbw0 : hx_BW bk.2.2.2.length (0 : Int32).toInt (r19).toInt (r38).toInt (r56).toInt bz0.toInt bz1.toInt bz2.toInt bz3.toInt bz4.toInt bz5.toInt bz6.toInt ((1000, 9, 0, 0, 0, 0) : sp_Y) := Or.inl ⟨by decide, rfl⟩
  refine lv_bipush (v := -2) hx hb dX1_explain_86 (by decide) ?_
  refine lv_istore (lv' := [(7, .int (-2)), (0, .ref (kb + 50)), (1, .ref (qt)), (2, .ref (kb)), (3, .ref (kb + 5)), (4, .int (v)), (5, .int (te)), (6, .int (pe))]) hx hb dX1_explain_88 hl (by decide) rfl (fun ls hl => ?_)
  have fx70 : V65 (kb + 51) = some (.inr (10, [.int (bz0), .int (bz1), .int (bz2), .int (bz3), .int (bz4), .int (bz5), .int (bz6)])) := (o67 (kb + 51) (hq_tne hy1 hy0 (by simp))).trans ((o63 (kb + 51) (hq_ne kb 51 52 (by decide))).trans ((o45 (kb + 51) (hq_ne kb 51 52 (by decide))).trans ((o27 (kb + 51) (hq_ne kb 51 52 (by decide))).trans ((o9 (kb + 51) (hq_tne hy1 hy0 (by simp))).trans ((o6 (kb + 51) (hq_tne hy1 hy0 (by simp))).trans ((o3 (kb + 51) (hq_tne hy1 hy0 (by simp))).trans (hc1)))))))
  have fx73 : V65 (kb + 5) = some (.inr (6, [.ref (md), .int (mw), .ref (mh), .ref (pt), .ref (ch)])) := (o67 (kb + 5) (hq_tne hy9 hy0 (by simp))).trans ((o63 (kb + 5) (hq_tne hy9 hy2 (by simp))).trans ((o45 (kb + 5) (hq_tne hy9 hy2 (by simp))).trans ((o27 (kb + 5) (hq_tne hy9 hy2 (by simp))).trans ((o9 (kb + 5) (hq_tne hy9 hy0 (by simp))).trans ((o6 (kb + 5) (hq_tne hy9 hy0 (by simp))).trans ((o3 (kb + 5) (hq_tne hy9 hy0 (by simp))).trans (hc11)))))))
  have fx75 : V65 (kb + 55) = some (.inr (9, [.ref (kb + 55 + 1), .int (ez)])) := (o67 (kb + 55) (hq_tne hy3 hy0 (by simp))).trans ((o63 (kb + 55) (hq_tne hy3 hy2 (by simp))).trans ((o45 (kb + 55) (hq_tne hy3 hy2 (by simp))).trans ((o27 (kb + 55) (hq_tne hy3 hy2 (by simp))).trans ((o9 (kb + 55) (hq_tne hy3 hy0 (by simp))).trans ((o6 (kb + 55) (hq_tne hy3 hy0 (by simp))).trans ((o3 (kb + 55) (hq_tne hy3 hy0 (by simp))).trans (hc5)))))))
  have fx77 : V65 (kb + 56) = some (.inl (cs 0, 30, .inl (ef))) := (o67 (kb + 56) (hq_tne hy4 hy0 (by simp))).trans ((o63 (kb + 56) (hq_tne hy4 hy2 (by simp))).trans ((o45 (kb + 56) (hq_tne hy4 hy2 (by simp))).trans ((o27 (kb + 56) (hq_tne hy4 hy2 (by simp))).trans ((o9 (kb + 56) (hq_tne hy4 hy0 (by simp))).trans ((o6 (kb + 56) (hq_tne hy4 hy0 (by simp))).trans ((o3 (kb + 56) (hq_tne hy4 hy0 (by simp))).trans (hc6)))))))
  have fx79 : V65 (kb + 57) = some (.inr (9, [.ref (kb + 57 + 1), .int (wz_)])) := (o67 (kb + 57) (hq_tne hy5 hy0 (by simp))).trans ((o63 (kb + 57) (hq_tne hy5 hy2 (by simp))).trans ((o45 (kb + 57) (hq_tne hy5 hy2 (by simp))).trans ((o27 (kb + 57) (hq_tne hy5 hy2 (by simp))).trans ((o9 (kb + 57) (hq_tne hy5 hy0 (by simp))).trans ((o6 (kb + 57) (hq_tne hy5 hy0 (by simp))).trans ((o3 (kb + 57) (hq_tne hy5 hy0 (by simp))).trans (hc7)))))))
  have fx81 : V65 (kb + 58) = some (.inl (cs 0, 30, .inl (wf_))) := (o67 (kb + 58) (hq_tne hy6 hy0 (by simp))).trans ((o63 (kb + 58) (hq_tne hy6 hy2 (by simp))).trans ((o45 (kb + 58) (hq_tne hy6 hy2 (by simp))).trans ((o27 (kb + 58) (hq_tne hy6 hy2 (by simp))).trans ((o9 (kb + 58) (hq_tne hy6 hy0 (by simp))).trans ((o6 (kb + 58) (hq_tne hy6 hy0 (by simp))).trans ((o3 (kb + 58) (hq_tne hy6 hy0 (by simp))).trans (hc8)))))))
  have fx83 : V65 (ch) = some (.inr (9, [.ref (ch + 1), .int (cz)])) := (o67 (ch) (hq_tne hy13 hy0 (by simp))).trans ((o63 (ch) (hq_tne hy13 hy2 (by simp))).trans ((o45 (ch) (hq_tne hy13 hy2 (by simp))).trans ((o27 (ch) (hq_tne hy13 hy2 (by simp))).trans ((o9 (ch) (hq_tne hy13 hy0 (by simp))).trans ((o6 (ch) (hq_tne hy13 hy0 (by simp))).trans ((o3 (ch) (hq_tne hy13 hy0 (by simp))).trans (hc12)))))))
  have fx85 : V65 (ch + 1) = some (.inl (cs 0, 30, .inl (cf))) := (o67 (ch + 1) (hq_tne hy14 hy0 (by simp))).trans ((o63 (ch + 1) (hq_tne hy14 hy2 (by simp))).trans ((o45 (ch + 1) (hq_tne hy14 hy2 (by simp))).trans ((o27 (ch + 1) (hq_tne hy14 hy2 (by simp))).trans ((o9 (ch + 1) (hq_tne hy14 hy0 (by simp))).trans ((o6 (ch + 1) (hq_tne hy14 hy0 (by simp))).trans ((o3 (ch + 1) (hq_tne hy14 hy0 (by simp))).trans (hc13)))))))
  have fx87 : V65 (kb + 53) = some (.inr (9, [.ref (kb + 53 + 1), .int (sz)])) := (o67 (kb + 53) (hq_tne hy15 hy0 (by simp))).trans ((o63 (kb + 53) (hq_tne hy15 hy2 (by simp))).trans ((o45 (kb + 53) (hq_tne hy15 hy2 (by simp))).trans ((o27 (kb + 53) (hq_tne hy15 hy2 (by simp))).trans ((o9 (kb + 53) (hq_tne hy15 hy0 (by simp))).trans ((o6 (kb + 53) (hq_tne hy15 hy0 (by simp))).trans ((o3 (kb + 53) (hq_tne hy15 hy0 (by simp))).trans (hc3)))))))
  have fx89 : V65 (kb + 54) = some (.inl (cs 0, 30, .inl (sf_))) := (o67 (kb + 54) (hq_tne hy16 hy0 (by simp))).trans ((o63 (kb + 54) (hq_tne hy16 hy2 (by simp))).trans ((o45 (kb + 54) (hq_tne hy16 hy2 (by simp))).trans ((o27 (kb + 54) (hq_tne hy16 hy2 (by simp))).trans ((o9 (kb + 54) (hq_tne hy16 hy0 (by simp))).trans ((o6 (kb + 54) (hq_tne hy16 hy0 (by simp))).trans ((o3 (kb + 54) (hq_tne hy16 hy0 (by simp))).trans (hc4)))))))
  have fx91 : V65 (kb + 59) = some (.inl (cs 1, 2, .inl (kk))) := (o67 (kb + 59) (hq_tne hy17 hy0 (by simp))).trans ((o63 (kb + 59) (hq_tne hy17 hy2 (by simp))).trans ((o45 (kb + 59) (hq_tne hy17 hy2 (by simp))).trans ((o27 (kb + 59) (hq_tne hy17 hy2 (by simp))).trans ((o9 (kb + 59) (hq_tne hy17 hy0 (by simp))).trans ((o6 (kb + 59) (hq_tne hy17 hy0 (by simp))).trans ((o3 (kb + 59) (hq_tne hy17 hy0 (by simp))).trans (hc16)))))))
  have fx93 : V65 (kb + 60) = some (.inl (cs 1, 2, .inl (mm))) := (o67 (kb + 60) (hq_tne hy18 hy0 (by simp))).trans ((o63 (kb + 60) (hq_tne hy18 hy2 (by simp))).trans ((o45 (kb + 60) (hq_tne hy18 hy2 (by simp))).trans ((o27 (kb + 60) (hq_tne hy18 hy2 (by simp))).trans ((o9 (kb + 60) (hq_tne hy18 hy0 (by simp))).trans ((o6 (kb + 60) (hq_tne hy18 hy0 (by simp))).trans ((o3 (kb + 60) (hq_tne hy18 hy0 (by simp))).trans (hc17)))))))
  have fx95 : V65 (kb + 61) = some (.inl (cs 1, 2, .inl (tt_))) := (o67 (kb + 61) (hq_tne hy19 hy0 (by simp))).trans ((o63 (kb + 61) (hq_tne hy19 hy2 (by simp))).trans ((o45 (kb + 61) (hq_tne hy19 hy2 (by simp))).trans ((o27 (kb + 61) (hq_tne hy19 hy2 (by simp))).trans ((o9 (kb + 61) (hq_tne hy19 hy0 (by simp))).trans ((o6 (kb + 61) (hq_tne hy19 hy0 (by simp))).trans ((o3 (kb + 61) (hq_tne hy19 hy0 (by simp))).trans (hc18)))))))
  have pk97 := pk51.keep (fun x7 (hx7 : qt + 77 ≤ x7 ∧ x7 < qt + 77 + 5 * bk.2.2.2.length) => (o67 x7 (hq_nk hne hx7.1 (by decide))).trans (o63 x7 (hq_nk hne hx7.1 (by decide))))
  have pk99 := hp1.keep (fun x7 (hx7 : qt + 15 ≤ x7 ∧ x7 < qt + 15 + 2 * bk.2.1.length) => (o67 x7 (hq_nk hne hx7.1 (by decide))).trans ((o63 x7 (hq_nk hne hx7.1 (by decide))).trans ((o45 x7 (hq_nk hne hx7.1 (by decide))).trans ((o27 x7 (hq_nk hne hx7.1 (by decide))).trans ((o9 x7 (hq_nk hne hx7.1 (by decide))).trans ((o6 x7 (hq_nk hne hx7.1 (by decide))).trans (o3 x7 (hq_nk hne hx7.1 (by decide)))))))))
  have pk101 := pk52.keep ((o67 (qt + 1) (hq_nkj hne (by decide))).trans (o63 (qt + 1) (hq_nkj hne (by decide)))) ((o67 (qt + 14) (hq_nkj hne (by decide))).trans (o63 (qt + 14) (hq_nkj hne (by decide)))) ((o67 (qt + 76) (hq_nkj hne (by decide))).trans (o63 (qt + 76) (hq_nkj hne (by decide))))
  have hl103 : (0 : Int32).toInt = 0 := by decide
  have hl104 : (-2 : Int32).toInt = -2 := by decide
  suffices lp90 : ∀ (k9 : Nat) (V9 : hp_V) (H9 : Heap) (locs9 : List Loc) (ls : Array Slot) (s9 : Int32) (Y9 : sp_Y) (fd9 : Int32) (b09 : Int32) (b19 : Int32) (b29 : Int32) (b39 : Int32) (b49 : Int32) (b59 : Int32) (b69 : Int32) (t39 : Int32) (t49 : Int32) (t59 : Int32) (t69 : Int32) (mw9 : Int32) (ez9 : Int32) (ef9 : Nat → Int32) (wz9 : Int32) (wf9 : Nat → Int32) (cz9 : Int32) (cf9 : Nat → Int32) (sz9 : Int32) (sf9 : Nat → Int32), (1000 - s9.toInt).toNat = k9 → hp_Z D cs B s V9 H9 n locs9 → hq_P cs G (fun _ => true) V V9 → V9 (kb + 50) = some (.inr (1, [.ref (kb + 51), .ref (kb + 52), .int (fd9), .ref (kb + 53), .ref (kb + 55), .ref (kb + 57), .ref (qt), .ref (kb), .ref (kb + 5), .int (e_sz), .ref (kb + 59), .ref (kb + 60), .ref (kb + 61)])) → V9 (kb + 51) = some (.inr (10, [.int (b09), .int (b19), .int (b29), .int (b39), .int (b49), .int (b59), .int (b69)])) → V9 (kb + 52) = some (.inr (10, [.int (r19), .int (r38), .int (r56), .int (t39), .int (t49), .int (t59), .int (t69)])) → V9 (kb + 5) = some (.inr (6, [.ref (md), .int (mw9), .ref (mh), .ref (pt), .ref (ch)])) → V9 (kb + 55) = some (.inr (9, [.ref (kb + 55 + 1), .int (ez9)])) → V9 (kb + 56) = some (.inl (cs 0, 30, .inl (ef9))) → V9 (kb + 57) = some (.inr (9, [.ref (kb + 57 + 1), .int (wz9)])) → V9 (kb + 58) = some (.inl (cs 0, 30, .inl (wf9))) → V9 (ch) = some (.inr (9, [.ref (ch + 1), .int (cz9)])) → V9 (ch + 1) = some (.inl (cs 0, 30, .inl (cf9))) → V9 (kb + 53) = some (.inr (9, [.ref (kb + 53 + 1), .int (sz9)])) → V9 (kb + 54) = some (.inl (cs 0, 30, .inl (sf9))) → V9 (kb + 59) = some (.inl (cs 1, 2, .inl (kk))) → V9 (kb + 60) = some (.inl (cs 1, 2, .inl (mm))) → V9 (kb + 61) = some (.inl (cs 1, 2, .inl (tt_))) → (∀ x, x ≠ kb + 50 → x ≠ kb + 51 → x ≠ kb + 52 → x ≠ kb + 53 → x ≠ kb + 54 → x ≠ kb + 55 → x ≠ kb + 56 → x ≠ kb + 5 → x ≠ kb + 57 → x ≠ kb + 58 → x ≠ ch → x ≠ ch + 1 → x ≠ kb + 59 → x ≠ kb + 60 → x ≠ kb + 61 → V9 x = V x) → hx_LL cs V9 (qt + 77) w bk.2.2.2 → hx_NL cs V9 (qt + 15) 30 w bk.2.1 → hx_BS cs V9 qt → -2 ≤ s9.toInt → s9.toInt ≤ (bk.2.2.2.length : Int) → (0 ≤ ez9.toInt ∧ ez9.toInt ≤ 30) ∧ (0 ≤ wz9.toInt ∧ wz9.toInt ≤ 30) ∧ (0 ≤ cz9.toInt ∧ cz9.toInt ≤ 30) ∧ (0 ≤ fd9.toInt ∧ fd9.toInt ≤ 1) ∧ (0 ≤ sz9.toInt ∧ sz9.toInt ≤ 30) → (hx_BW bk.2.2.2.length fd9.toInt (r19).toInt (r38).toInt (r56).toInt b09.toInt b19.toInt b29.toInt b39.toInt b49.toInt b59.toInt b69.toInt Y9) → (sp_tr (sp_M w bk.2.2.2 (sp_U w bk (sp_nm w t9)) ask) Y9 (sp_fz (sp_bs bk.2.2.2 w (sp_U w bk (sp_nm w t9)) (fun i : Nat => ∀ x, bk.2.2.2[i]? = some x → ¬ sp_lp (sp_F w x) (sp_nm w t9) = -1) qq os oe) s9.toInt ((bk.2.2.2.length : Int) - s9.toInt).toNat ++ []) = (sp_tr (sp_M w bk.2.2.2 (sp_U w bk (sp_nm w t9)) ask) ((1000, 9, 0, 0, 0, 0) : sp_Y) (sp_cx bk.2.2.2 w (sp_U w bk (sp_nm w t9)) (fun i : Nat => ∀ x, bk.2.2.2[i]? = some x → ¬ sp_lp (sp_F w x) (sp_nm w t9) = -1) qq os oe))) → lv_has ls 9 [(7, .int (s9)), (0, .ref (kb + 50)), (1, .ref (qt)), (2, .ref (kb)), (3, .ref (kb + 5)), (4, .int (v)), (5, .int (te)), (6, .int (pe))] → W p l e ({ frames := 7, cells := 0, slots := 0, locals := 170 }) s m ([.ref (kb + 50), .ref (qt), .ref (kb), .ref (kb + 5), .int (v), .int (te), .int (pe)] : List Value).toArray below meth c H9 locs9 0 0 (MQ below (hp_QI D cs B (fun r V' n' => n = n' ∧ hq_P cs G (fun _ => true) V V' ∧ (∀ x, x ≠ kb + 50 → x ≠ kb + 51 → x ≠ kb + 52 → x ≠ kb + 53 → x ≠ kb + 54 → x ≠ kb + 55 → x ≠ kb + 56 → x ≠ kb + 5 → x ≠ kb + 57 → x ≠ kb + 58 → x ≠ ch → x ≠ ch + 1 → x ≠ kb + 59 → x ≠ kb + 60 → x ≠ kb + 61 → V' x = V x) ∧ (∃ e_fd1 : Int32, ∃ bw0 : Int32, ∃ bw1 : Int32, ∃ bw2 : Int32, ∃ bw3 : Int32, ∃ bw4 : Int32, ∃ bw5 : Int32, ∃ bw6 : Int32, ∃ tw0 : Int32, ∃ tw1 : Int32, ∃ tw2 : Int32, ∃ tw3 : Int32, ∃ tw4 : Int32, ∃ tw5 : Int32, ∃ tw6 : Int32, ∃ sz1 : Int32, ∃ sf1 : Nat → Int32, ∃ ez1 : Int32, ∃ ef1 : Nat → Int32, ∃ mw1 : Int32, ∃ wz1 : Int32, ∃ wf1 : Nat → Int32, ∃ cz1 : Int32, ∃ cf1 : Nat → Int32, ∃ e_sz1 : Int32, ∃ kk1 : Nat → Int32, ∃ mm1 : Nat → Int32, ∃ tt1 : Nat → Int32, V' (kb + 50) = some (.inr (1, [.ref (kb + 51), .ref (kb + 52), .int (e_fd1), .ref (kb + 53), .ref (kb + 55), .ref (kb + 57), .ref (qt), .ref (kb), .ref (kb + 5), .int (e_sz1), .ref (kb + 59), .ref (kb + 60), .ref (kb + 61)])) ∧ V' (kb + 51) = some (.inr (10, [.int (bw0), .int (bw1), .int (bw2), .int (bw3), .int (bw4), .int (bw5), .int (bw6)])) ∧ V' (kb + 52) = some (.inr (10, [.int (tw0), .int (tw1), .int (tw2), .int (tw3), .int (tw4), .int (tw5), .int (tw6)])) ∧ V' (kb + 53) = some (.inr (9, [.ref (kb + 53 + 1), .int (sz1)])) ∧ V' (kb + 54) = some (.inl (cs 0, 30, .inl (sf1))) ∧ V' (kb + 55) = some (.inr (9, [.ref (kb + 55 + 1), .int (ez1)])) ∧ V' (kb + 56) = some (.inl (cs 0, 30, .inl (ef1))) ∧ V' (kb + 5) = some (.inr (6, [.ref (md), .int (mw1), .ref (mh), .ref (pt), .ref (ch)])) ∧ V' (kb + 57) = some (.inr (9, [.ref (kb + 57 + 1), .int (wz1)])) ∧ V' (kb + 58) = some (.inl (cs 0, 30, .inl (wf1))) ∧ V' (ch) = some (.inr (9, [.ref (ch + 1), .int (cz1)])) ∧ V' (ch + 1) = some (.inl (cs 0, 30, .inl (cf1))) ∧ V' (kb + 59) = some (.inl (cs 1, 2, .inl (kk1))) ∧ V' (kb + 60) = some (.inl (cs 1, 2, .inl (mm1))) ∧ V' (kb + 61) = some (.inl (cs 1, 2, .inl (tt1))) ∧ ((r.toInt = 1 ∧ ¬ (sp_tr (sp_M w bk.2.2.2 (sp_U w bk (sp_nm w t9)) ask) ((1000, 9, 0, 0, 0, 0) : sp_Y) (sp_wx bk.2.2.2 qq os oe)).1 = 1000 ∧ sp_hl e_sz1 kk1 mm1 tt1 (sp_tel ex os oe (sp_tr (sp_M w bk.2.2.2 (sp_U w bk (sp_nm w t9)) ask) ((1000, 9, 0, 0, 0, 0) : sp_Y) (sp_wx bk.2.2.2 qq os oe)).2.2.1 (sp_tr (sp_M w bk.2.2.2 (sp_U w bk (sp_nm w t9)) ask) ((1000, 9, 0, 0, 0, 0) : sp_Y) (sp_wx bk.2.2.2 qq os oe)).2.2.2.1 (sp_tr (sp_M w bk.2.2.2 (sp_U w bk (sp_nm w t9)) ask) ((1000, 9, 0, 0, 0, 0) : sp_Y) (sp_wx bk.2.2.2 qq os oe)).2.2.2.2.1 (sp_tr (sp_M w bk.2.2.2 (sp_U w bk (sp_nm w t9)) ask) ((1000, 9, 0, 0, 0, 0) : sp_Y) (sp_wx bk.2.2.2 qq os oe)).2.2.2.2.2)) ∨ (r.toInt = 0 ∧ (sp_tr (sp_M w bk.2.2.2 (sp_U w bk (sp_nm w t9)) ask) ((1000, 9, 0, 0, 0, 0) : sp_Y) (sp_wx bk.2.2.2 qq os oe)).1 = 1000 ∧ e_sz1 = e_sz ∧ kk1 = kk ∧ mm1 = mm ∧ tt1 = tt_)) ∧ ((0 ≤ e_fd1.toInt ∧ e_fd1.toInt ≤ 1) ∧ (0 ≤ e_sz1.toInt ∧ e_sz1.toInt ≤ 2))))) ([.ref (kb + 50), .ref (qt), .ref (kb), .ref (kb + 5), .int (v), .int (te), .int (pe)] : List Value).toArray s 0 0 (hp_F B)) (F0 m 90 ls []) from lp90 _ _ _ _ ls (-2) (((1000, 9, 0, 0, 0, 0) : sp_Y)) (0) (bz0) (bz1) (bz2) (bz3) (bz4) (bz5) (bz6) (tz3) (tz4) (tz5) (tz6) (mw) (ez) (ef) (wz_) (wf_) (cz) (cf) (sz) (sf_) rfl hZ hP e66 fx70 fx68 fx73 fx75 fx77 fx79 fx81 fx83 fx85 fx87 fx89 fx91 fx93 fx95 (fun x8 hne0 hne1 hne2 hne3 hne4 hne5 hne6 hne7 hne8 hne9 hne10 hne11 hne12 hne13 hne14 => (o67 x8 hne0).trans ((o63 x8 hne2).trans ((o45 x8 hne2).trans ((o27 x8 hne2).trans ((o9 x8 hne0).trans ((o6 x8 hne0).trans (o3 x8 hne0))))))) pk97 pk99 pk101 (by omega) (by omega) (by omega) (hbw0) (by rw [show ((-2) : Int32).toInt = -2 by decide, sp_bs_all, List.append_nil]) (lv_sub hl [0, 1, 2, 3, 4, 5, 6, 7] rfl)
  intro k9
  induction k9 using Nat.strongRecOn with
  | _ k9 ih90 =>
    intro V9 H9 locs9 ls s9 Y9 fd9 b09 b19 b29 b39 b49 b59 b69 t39 t49 t59 t69 mw9 ez9 ef9 wz9 wf9 cz9 cf9 sz9 sf9 hk90 hZ hP ho69 ho71 ho72 ho74 ho76 ho78 ho80 ho82 ho84 ho86 ho88 ho90 ho92 ho94 ho96 fr90 pk98 pk100 pk102 hv105 hv106 hv107 hbw9 htr hl
    have hb_s9 := hq_rng s9
    have hb_fd9 := hq_rng fd9
    have hb_b09 := hq_rng b09
    have hb_b19 := hq_rng b19
    have hb_b29 := hq_rng b29
    have hb_b39 := hq_rng b39
    have hb_b49 := hq_rng b49
    have hb_b59 := hq_rng b59
    have hb_b69 := hq_rng b69
    have hb_t39 := hq_rng t39
    have hb_t49 := hq_rng t49
    have hb_t59 := hq_rng t59
    have hb_t69 := hq_rng t69
    have hb_mw9 := hq_rng mw9
    have hb_ez9 := hq_rng ez9
    have hb_wz9 := hq_rng wz9
    have hb_cz9 := hq_rng cz9
    have hb_sz9 := hq_rng sz9
    have hf108 := hq_rgB hP.1 hy4 ho78
    have hf109 := hq_rgB hP.1 hy6 ho82
    have hf110 := hq_rgB hP.1 hy14 ho86
    have hf111 := hq_rgB hP.1 hy16 ho90
    have hf112 := hq_rg2 hP.1 hy17 ho92
    have hf113 := hq_rg2 hP.1 hy18 ho94
    have hf114 := hq_rg2 hP.1 hy19 ho96
    refine lv_iload hx hb dX1_explain_90 (lv_at hl 0 rfl) ?_
    refine lv_aload_n hx hb dX1_explain_92 rfl (lv_at hl 1 rfl) ?_
    refine hp_get (v := .ref (qt)) hx hb hts hown hZ ho69 fl_X1_50 rfl dX1_explain_93 ?_
    have fx115 : V9 (qt) = some (.inr (0, [.ref (qt + 1), .int (bc), .ref (qt + 14), .ref (qt + 75), .int (bv), .ref (qt + 76), .int (bl)])) := (fr90 (qt) (hq_nk0 hne (by decide)) (hq_nk0 hne (by decide)) (hq_nk0 hne (by decide)) (hq_nk0 hne (by decide)) (hq_nk0 hne (by decide)) (hq_nk0 hne (by decide)) (hq_nk0 hne (by decide)) (hq_nk0 hne (by decide)) (hq_nk0 hne (by decide)) (hq_nk0 hne (by decide)) (hq_nc0 hne hsh.2.2.2) (hq_nc10 hne hsh.2.2.2) (hq_nk0 hne (by decide)) (hq_nk0 hne (by decide)) (hq_nk0 hne (by decide))).trans (hc14)
    refine hp_get (v := .int (bl)) hx hb hts hown hZ fx115 fl_X1_80 rfl dX1_explain_96 ?_
    refine lv_icmp_ge (tgt := 156) hx hb dX1_explain_99 (by decide) (fun c116 => ?_) (fun c116 => ?_)
    · have c116 : (bl).toInt ≤ (s9).toInt := hq_lei.mp c116
      have hY9 : Y9 = (sp_tr (sp_M w bk.2.2.2 (sp_U w bk (sp_nm w t9)) ask) ((1000, 9, 0, 0, 0, 0) : sp_Y) (sp_cx bk.2.2.2 w (sp_U w bk (sp_nm w t9)) (fun i : Nat => ∀ x, bk.2.2.2[i]? = some x → ¬ sp_lp (sp_F w x) (sp_nm w t9) = -1) qq os oe)) := (by have h9 := sp_fz_end (R := []) (by omega) htr; exact h9)
      rw [hY9, hf4, hf0, hf1] at hbw9
      refine lv_aload_n hx hb dX1_explain_156 rfl (lv_at hl 1 rfl) ?_
      refine hp_get (v := .int (fd9)) hx hb hts hown hZ ho69 fl_X1_76 rfl dX1_explain_157 ?_
      refine lv_if_eq (tgt := 167) hx hb dX1_explain_160 (by decide) (fun c117 => ?_) (fun c117 => ?_)
      · have c117 : (fd9).toInt = (0 : Int) := hq_eqi.mp c117
        have hx1 := sp_xno (fun s e => sp_U_le hg8 hnl s e) (fun i e h9 hi => sp_U_no i e h9 hi) (show (fd9).toInt = 0 by omega) hbw9
        refine lv_aload_n hx hb dX1_explain_167 rfl (lv_at hl 1 rfl) ?_
        refine hp_get (v := .int (fd9)) hx hb hts hown hZ ho69 fl_X1_76 rfl dX1_explain_168 ?_
        exact hp_zret hx hb hr (hq_nzi (by omega) (by omega)) hlocks hZ ⟨rfl, hP, (fun x8 hne0 hne1 hne2 hne3 hne4 hne5 hne6 hne7 hne8 hne9 hne10 hne11 hne12 hne13 hne14 => fr90 x8 hne0 hne1 hne2 hne3 hne4 hne5 hne6 hne7 hne8 hne9 hne10 hne11 hne12 hne13 hne14), fd9, b09, b19, b29, b39, b49, b59, b69, r19, r38, r56, t39, t49, t59, t69, sz9, sf9, ez9, ef9, mw9, wz9, wf9, cz9, cf9, e_sz, kk, mm, tt_, ho69, ho71, ho72, ho88, ho90, ho76, ho78, ho74, ho80, ho82, ho84, ho86, ho92, ho94, ho96, Or.inr ⟨by omega, hx1, rfl, rfl, rfl, rfl⟩, by omega⟩ dX1_explain_171
      · have c117 : ¬ (fd9).toInt = (0 : Int) := fun h9 => c117 (hq_eqi.mpr h9)
        obtain ⟨hx1, hx2, hx3, hx4, hx5, hx6, hx7, hx8⟩ := sp_xfin (fun s e => sp_U_le hg8 hnl s e) (fun i e h9 hi => sp_U_no i e h9 hi) hqq (rfl : (((1000, 9, 0, 0, 0, 0) : sp_Y)).1 = 1000) (by omega) (by omega) (show (fd9).toInt = 1 by omega) hbw9
        refine lv_aload_n hx hb dX1_explain_163 rfl (lv_at hl 1 rfl) ?_
        refine hp_callv (hp_runV (As := []) (rest := []) hx hb hml hown hts (x_tell l D cs B G V9 n hP.1 (kb) (qt) (fd9) (e_sz) (b09) (b19) (b29) (b39) (b49) (b59) (b69) (kk) (mm) (tt_) hy0 hy17 hy18 hy19 ho69 ho71 ho92 ho94 ho96  hx3 (by omega) (by omega) (by omega) (by omega) (by omega) (by omega) (by omega)) hZ ho69 cv_X1_98 rfl rfl ⟨Nat.le_of_ble_eq_true rfl, Nat.le_of_ble_eq_true rfl⟩ rfl hl.1 rfl (Nat.le_of_ble_eq_true rfl) dX1_explain_164 ⟨(Nat.le_of_ble_eq_true rfl), (Nat.le_of_ble_eq_true rfl)⟩) hZ (fun V118 n119 _ _ hw120 hZ => ?_)
        obtain ⟨rfl, hq122, fr123, z124, u125, u126, u127, ho128, ho129, ho130, ho131, hp132⟩ := hw120
        have b133 := hq_rng z124
        have hP := hP.trans hq122 (fun _ h => Bool.noConfusion h)
        have hf134 := hq_rg2 hP.1 hy17 ho129
        have hf135 := hq_rg2 hP.1 hy18 ho130
        have hf136 := hq_rg2 hP.1 hy19 ho131
        have htl := hp132
        rw [hx2] at htl
        have htl1 := htl.1
        rw [hx2] at hx3
        refine lv_aload_n hx hb dX1_explain_167 rfl (lv_at hl 1 rfl) ?_
        refine hp_get (v := .int (fd9)) hx hb hts hown hZ ho128 fl_X1_76 rfl dX1_explain_168 ?_
        have fx137 : V118 (kb + 52) = some (.inr (10, [.int (r19), .int (r38), .int (r56), .int (t39), .int (t49), .int (t59), .int (t69)])) := (fr123 (kb + 52) (hq_tne hy2 hy0 (by simp)) (hq_tne hy2 hy17 (by simp)) (hq_tne hy2 hy18 (by simp)) (hq_tne hy2 hy19 (by simp))).trans (ho72)
        have fx138 : V118 (kb + 51) = some (.inr (10, [.int (b09), .int (b19), .int (b29), .int (b39), .int (b49), .int (b59), .int (b69)])) := (fr123 (kb + 51) (hq_tne hy1 hy0 (by simp)) (hq_tne hy1 hy17 (by simp)) (hq_tne hy1 hy18 (by simp)) (hq_tne hy1 hy19 (by simp))).trans (ho71)
        have fx139 : V118 (kb + 53) = some (.inr (9, [.ref (kb + 53 + 1), .int (sz9)])) := (fr123 (kb + 53) (hq_tne hy15 hy0 (by simp)) (hq_tne hy15 hy17 (by simp)) (hq_tne hy15 hy18 (by simp)) (hq_tne hy15 hy19 (by simp))).trans (ho88)
        have fx140 : V118 (kb + 54) = some (.inl (cs 0, 30, .inl (sf9))) := (fr123 (kb + 54) (hq_tne hy16 hy0 (by simp)) (hq_tne hy16 hy17 (by simp)) (hq_tne hy16 hy18 (by simp)) (hq_tne hy16 hy19 (by simp))).trans (ho90)
        have fx141 : V118 (kb + 55) = some (.inr (9, [.ref (kb + 55 + 1), .int (ez9)])) := (fr123 (kb + 55) (hq_tne hy3 hy0 (by simp)) (hq_tne hy3 hy17 (by simp)) (hq_tne hy3 hy18 (by simp)) (hq_tne hy3 hy19 (by simp))).trans (ho76)
        have fx142 : V118 (kb + 56) = some (.inl (cs 0, 30, .inl (ef9))) := (fr123 (kb + 56) (hq_tne hy4 hy0 (by simp)) (hq_tne hy4 hy17 (by simp)) (hq_tne hy4 hy18 (by simp)) (hq_tne hy4 hy19 (by simp))).trans (ho78)
        have fx143 : V118 (kb + 5) = some (.inr (6, [.ref (md), .int (mw9), .ref (mh), .ref (pt), .ref (ch)])) := (fr123 (kb + 5) (hq_tne hy9 hy0 (by simp)) (hq_tne hy9 hy17 (by simp)) (hq_tne hy9 hy18 (by simp)) (hq_tne hy9 hy19 (by simp))).trans (ho74)
        have fx144 : V118 (kb + 57) = some (.inr (9, [.ref (kb + 57 + 1), .int (wz9)])) := (fr123 (kb + 57) (hq_tne hy5 hy0 (by simp)) (hq_tne hy5 hy17 (by simp)) (hq_tne hy5 hy18 (by simp)) (hq_tne hy5 hy19 (by simp))).trans (ho80)
        have fx145 : V118 (kb + 58) = some (.inl (cs 0, 30, .inl (wf9))) := (fr123 (kb + 58) (hq_tne hy6 hy0 (by simp)) (hq_tne hy6 hy17 (by simp)) (hq_tne hy6 hy18 (by simp)) (hq_tne hy6 hy19 (by simp))).trans (ho82)
        have fx146 : V118 (ch) = some (.inr (9, [.ref (ch + 1), .int (cz9)])) := (fr123 (ch) (hq_tne hy13 hy0 (by simp)) (hq_tne hy13 hy17 (by simp)) (hq_tne hy13 hy18 (by simp)) (hq_tne hy13 hy19 (by simp))).trans (ho84)
        have fx147 : V118 (ch + 1) = some (.inl (cs 0, 30, .inl (cf9))) := (fr123 (ch + 1) (hq_tne hy14 hy0 (by simp)) (hq_tne hy14 hy17 (by simp)) (hq_tne hy14 hy18 (by simp)) (hq_tne hy14 hy19 (by simp))).trans (ho86)
        exact hp_zret hx hb hr (hq_nzi (by omega) (by omega)) hlocks hZ ⟨rfl, hP, (fun x8 hne0 hne1 hne2 hne3 hne4 hne5 hne6 hne7 hne8 hne9 hne10 hne11 hne12 hne13 hne14 => (fr123 x8 hne0 hne12 hne13 hne14).trans (fr90 x8 hne0 hne1 hne2 hne3 hne4 hne5 hne6 hne7 hne8 hne9 hne10 hne11 hne12 hne13 hne14)), fd9, b09, b19, b29, b39, b49, b59, b69, r19, r38, r56, t39, t49, t59, t69, sz9, sf9, ez9, ef9, mw9, wz9, wf9, cz9, cf9, z124, u125, u126, u127, ho128, fx138, fx137, fx139, fx140, fx141, fx142, fx143, fx144, fx145, fx146, fx147, ho129, ho130, ho131, Or.inl ⟨by omega, hx1, htl⟩, by omega⟩ dX1_explain_171
    · have c116 : ¬ (bl).toInt ≤ (s9).toInt := fun h9 => c116 (hq_lei.mpr h9)
      refine lv_aload_n hx hb dX1_explain_102 rfl (lv_at hl 1 rfl) ?_
      refine lv_iload hx hb dX1_explain_103 (lv_at hl 5 rfl) ?_
      refine lv_iload hx hb dX1_explain_105 (lv_at hl 0 rfl) ?_
      refine hp_calli (hp_runV (As := [.int (v), .int (s9)]) (rest := []) hx hb hml hown hts (x_eps l D cs B G V9 n hP.1 (kb) (qt) (bb) (t9) (w) (bk) (fd9) (e_sz) (v) (s9) (bc) (bv) (bl) (r19) (r38) (r56) (t39) (t49) (t59) (t69) (sz9) (sf9) hy0 hy2 hy15 hy16 ho69 ho72 fx115 ho88 ho90 pk98 pk100 pk102 hbl hgd hgd2 hBT ht9 (by omega) hrh0 hown0 (by omega) (by omega) hne (by omega)) hZ ho69 cv_X1_83 rfl rfl ⟨Nat.le_of_ble_eq_true rfl, Nat.le_of_ble_eq_true rfl⟩ rfl hl.1 rfl (Nat.le_of_ble_eq_true rfl) dX1_explain_107 ⟨(Nat.le_of_ble_eq_true rfl), (Nat.le_of_ble_eq_true rfl)⟩) hZ (fun r151 V148 n149 _ _ hw150 hZ => ?_)
      obtain ⟨rfl, hq152, fr153, z154, u155, ho156, ho157, ho158, hp159, hp160⟩ := hw150
      have b161 := hq_rng z154
      have hP := hP.trans hq152 (fun _ h => Bool.noConfusion h)
      have hf162 := hq_rgB hP.1 hy16 ho158
      have b163 := hq_rng r151
      have hps := hp159
      have b164 := hp160
      refine lv_if_eq (tgt := 150) hx hb dX1_explain_110 (by decide) (fun c165 => ?_) (fun c165 => ?_)
      · have c165 : (r151).toInt = (0 : Int) := hq_eqi.mp c165
        have hpn := (show (s9.toInt = -1 ∧ (r38).toInt = -1) ∨ (0 ≤ s9.toInt ∧ ¬ (s9.toInt < (bk.2.2.2.length : Int) ∧ sp_kd bk.2.2.2 s9.toInt.toNat = 0 ∧ ¬ s9.toInt = (r38).toInt ∧ (fun i : Nat => ∀ x, bk.2.2.2[i]? = some x → ¬ sp_lp (sp_F w x) (sp_nm w t9) = -1) s9.toInt.toNat)) by rcases hps with g9 | g9; (· omega); (· exact g9.2))
        have hbs9 : (sp_bs bk.2.2.2 w (sp_U w bk (sp_nm w t9)) (fun i : Nat => ∀ x, bk.2.2.2[i]? = some x → ¬ sp_lp (sp_F w x) (sp_nm w t9) = -1) qq os oe) s9.toInt = [] := sp_bs_no (by rw [← hf0]; exact hpn) (by omega)
        obtain ⟨y166, ey167⟩ : ∃ y : Int32, y = s9 + (1) := ⟨_, rfl⟩
        obtain ⟨k168, hk169, b170, b171⟩ := hq_add (s9) (1)
        rw [← ey167] at hk169 b170 b171
        have hk169 : (y166).toInt = (s9).toInt + (1) + k168 * 4294967296 := hk169
        obtain rfl : k168 = 0 := by omega
        refine lv_iinc (v := y166) (lv' := [(7, .int (y166)), (0, .ref (kb + 50)), (1, .ref (qt)), (2, .ref (kb)), (3, .ref (kb + 5)), (4, .int (v)), (5, .int (te)), (6, .int (pe))]) hx hb dX1_explain_150 hl (k := 0) rfl (by rw [ey167]; rfl) (by decide) rfl (fun ls hl => ?_)
        refine lv_goto (tgt := 90) hx hb dX1_explain_153 (by decide) ?_
        have fx172 : V148 (kb + 50) = some (.inr (1, [.ref (kb + 51), .ref (kb + 52), .int (fd9), .ref (kb + 53), .ref (kb + 55), .ref (kb + 57), .ref (qt), .ref (kb), .ref (kb + 5), .int (e_sz), .ref (kb + 59), .ref (kb + 60), .ref (kb + 61)])) := (fr153 (kb + 50) (hq_tne hy0 hy2 (by simp)) (hq_tne hy0 hy15 (by simp)) (hq_tne hy0 hy16 (by simp))).trans (ho69)
        have fx173 : V148 (kb + 51) = some (.inr (10, [.int (b09), .int (b19), .int (b29), .int (b39), .int (b49), .int (b59), .int (b69)])) := (fr153 (kb + 51) (hq_ne kb 51 52 (by decide)) (hq_tne hy1 hy15 (by simp)) (hq_tne hy1 hy16 (by simp))).trans (ho71)
        have fx174 : V148 (kb + 5) = some (.inr (6, [.ref (md), .int (mw9), .ref (mh), .ref (pt), .ref (ch)])) := (fr153 (kb + 5) (hq_tne hy9 hy2 (by simp)) (hq_tne hy9 hy15 (by simp)) (hq_tne hy9 hy16 (by simp))).trans (ho74)
        have fx175 : V148 (kb + 55) = some (.inr (9, [.ref (kb + 55 + 1), .int (ez9)])) := (fr153 (kb + 55) (hq_tne hy3 hy2 (by simp)) (hq_ne kb 55 53 (by decide)) (hq_tne hy3 hy16 (by simp))).trans (ho76)
        have fx176 : V148 (kb + 56) = some (.inl (cs 0, 30, .inl (ef9))) := (fr153 (kb + 56) (hq_tne hy4 hy2 (by simp)) (hq_tne hy4 hy15 (by simp)) (hq_ne kb 56 54 (by decide))).trans (ho78)
        have fx177 : V148 (kb + 57) = some (.inr (9, [.ref (kb + 57 + 1), .int (wz9)])) := (fr153 (kb + 57) (hq_tne hy5 hy2 (by simp)) (hq_ne kb 57 53 (by decide)) (hq_tne hy5 hy16 (by simp))).trans (ho80)
        have fx178 : V148 (kb + 58) = some (.inl (cs 0, 30, .inl (wf9))) := (fr153 (kb + 58) (hq_tne hy6 hy2 (by simp)) (hq_tne hy6 hy15 (by simp)) (hq_ne kb 58 54 (by decide))).trans (ho82)
        have fx179 : V148 (ch) = some (.inr (9, [.ref (ch + 1), .int (cz9)])) := (fr153 (ch) (hq_tne hy13 hy2 (by simp)) (by omega) (hq_tne hy13 hy16 (by simp))).trans (ho84)
        have fx180 : V148 (ch + 1) = some (.inl (cs 0, 30, .inl (cf9))) := (fr153 (ch + 1) (hq_tne hy14 hy2 (by simp)) (hq_tne hy14 hy15 (by simp)) (by omega)).trans (ho86)
        have fx181 : V148 (kb + 59) = some (.inl (cs 1, 2, .inl (kk))) := (fr153 (kb + 59) (hq_tne hy17 hy2 (by simp)) (hq_tne hy17 hy15 (by simp)) (hq_tne hy17 hy16 (by simp))).trans (ho92)
        have fx182 : V148 (kb + 60) = some (.inl (cs 1, 2, .inl (mm))) := (fr153 (kb + 60) (hq_tne hy18 hy2 (by simp)) (hq_tne hy18 hy15 (by simp)) (hq_tne hy18 hy16 (by simp))).trans (ho94)
        have fx183 : V148 (kb + 61) = some (.inl (cs 1, 2, .inl (tt_))) := (fr153 (kb + 61) (hq_tne hy19 hy2 (by simp)) (hq_tne hy19 hy15 (by simp)) (hq_tne hy19 hy16 (by simp))).trans (ho96)
        have pk184 := pk98.keep (fun x7 (hx7 : qt + 77 ≤ x7 ∧ x7 < qt + 77 + 5 * bk.2.2.2.length) => fr153 x7 (hq_nk hne hx7.1 (by decide)) (hq_nk hne hx7.1 (by decide)) (hq_nk hne hx7.1 (by decide)))
        have pk185 := pk100.keep (fun x7 (hx7 : qt + 15 ≤ x7 ∧ x7 < qt + 15 + 2 * bk.2.1.length) => fr153 x7 (hq_nk hne hx7.1 (by decide)) (hq_nk hne hx7.1 (by decide)) (hq_nk hne hx7.1 (by decide)))
        have pk186 := pk102.keep (fr153 (qt + 1) (hq_nkj hne (by decide)) (hq_nkj hne (by decide)) (hq_nkj hne (by decide))) (fr153 (qt + 14) (hq_nkj hne (by decide)) (hq_nkj hne (by decide)) (hq_nkj hne (by decide))) (fr153 (qt + 76) (hq_nkj hne (by decide)) (hq_nkj hne (by decide)) (hq_nkj hne (by decide)))
        exact ih90 _ (by omega) _ _ _ ls (y166) (Y9) (fd9) (b09) (b19) (b29) (b39) (b49) (b59) (b69) (s9) (t49) (t59) (t69) (mw9) (ez9) (ef9) (wz9) (wf9) (cz9) (cf9) (z154) (u155) rfl hZ hP fx172 fx173 ho156 fx174 fx175 fx176 fx177 fx178 fx179 fx180 ho157 ho158 fx181 fx182 fx183 (fun x8 hne0 hne1 hne2 hne3 hne4 hne5 hne6 hne7 hne8 hne9 hne10 hne11 hne12 hne13 hne14 => (fr153 x8 hne2 hne3 hne4).trans (fr90 x8 hne0 hne1 hne2 hne3 hne4 hne5 hne6 hne7 hne8 hne9 hne10 hne11 hne12 hne13 hne14)) pk184 pk185 pk186 (by omega) (by omega) (by omega) (hbw9) (by rw [show (y166).toInt = s9.toInt + 1 by omega]; exact sp_fz_in (by omega) htr (by rw [hbs9]; rfl)) (lv_sub hl [0, 1, 2, 3, 4, 5, 6, 7] rfl)
      · have c165 : ¬ (r151).toInt = (0 : Int) := fun h9 => c165 (hq_eqi.mpr h9)
        obtain ⟨hpv, hpk, hpw⟩ : sp_vs bk.2.2.2.length (r38).toInt s9.toInt ∧ (0 ≤ s9.toInt → sp_kd bk.2.2.2 s9.toInt.toNat = 0 ∧ (fun i : Nat => ∀ x, bk.2.2.2[i]? = some x → ¬ sp_lp (sp_F w x) (sp_nm w t9) = -1) s9.toInt.toNat) ∧ sp_rp z154 u155 (sp_stm w bk (sp_nm w t9) (sp_ys (r38).toInt s9.toInt)) := by rcases hps with g9 | g9; (· exact g9.2); (· omega)
        have hpw1 := hpw.1
        have hop := sp_fz_op (by omega) htr
        rw [show (sp_bs bk.2.2.2 w (sp_U w bk (sp_nm w t9)) (fun i : Nat => ∀ x, bk.2.2.2[i]? = some x → ¬ sp_lp (sp_F w x) (sp_nm w t9) = -1) qq os oe) s9.toInt = sp_ce bk.2.2.2 w (sp_U w bk (sp_nm w t9)) (sp_wc (r19).toInt s9.toInt (-2) (-1) (-1)) (sp_wk (r19).toInt s9.toInt (-2) (-1) (-1)) (sp_ys (r38).toInt s9.toInt) (r56).toInt from (by have h9 := sp_bs_yes (ls := bk.2.2.2) (w := w) (U := (sp_U w bk (sp_nm w t9))) (st := (fun i : Nat => ∀ x, bk.2.2.2[i]? = some x → ¬ sp_lp (sp_F w x) (sp_nm w t9) = -1)) (oe := oe) hqq (show sp_vs bk.2.2.2.length os s9.toInt by rw [← hf0]; exact hpv) hpk; rw [← hf4, ← hf0, ← hf1] at h9; rw [← hf0, ← hf1]; exact h9), ← sp_be_all hb60n] at hop
        refine lv_bipush (v := -2) hx hb dX1_explain_113 (by decide) ?_
        refine lv_istore (lv' := [(8, .int (-2)), (7, .int (s9)), (0, .ref (kb + 50)), (1, .ref (qt)), (2, .ref (kb)), (3, .ref (kb + 5)), (4, .int (v)), (5, .int (te)), (6, .int (pe))]) hx hb dX1_explain_115 hl (by decide) rfl (fun ls hl => ?_)
        have fx187 : V148 (kb + 50) = some (.inr (1, [.ref (kb + 51), .ref (kb + 52), .int (fd9), .ref (kb + 53), .ref (kb + 55), .ref (kb + 57), .ref (qt), .ref (kb), .ref (kb + 5), .int (e_sz), .ref (kb + 59), .ref (kb + 60), .ref (kb + 61)])) := (fr153 (kb + 50) (hq_tne hy0 hy2 (by simp)) (hq_tne hy0 hy15 (by simp)) (hq_tne hy0 hy16 (by simp))).trans (ho69)
        have fx189 : V148 (kb + 51) = some (.inr (10, [.int (b09), .int (b19), .int (b29), .int (b39), .int (b49), .int (b59), .int (b69)])) := (fr153 (kb + 51) (hq_ne kb 51 52 (by decide)) (hq_tne hy1 hy15 (by simp)) (hq_tne hy1 hy16 (by simp))).trans (ho71)
        have fx192 : V148 (kb + 5) = some (.inr (6, [.ref (md), .int (mw9), .ref (mh), .ref (pt), .ref (ch)])) := (fr153 (kb + 5) (hq_tne hy9 hy2 (by simp)) (hq_tne hy9 hy15 (by simp)) (hq_tne hy9 hy16 (by simp))).trans (ho74)
        have fx194 : V148 (kb + 55) = some (.inr (9, [.ref (kb + 55 + 1), .int (ez9)])) := (fr153 (kb + 55) (hq_tne hy3 hy2 (by simp)) (hq_ne kb 55 53 (by decide)) (hq_tne hy3 hy16 (by simp))).trans (ho76)
        have fx196 : V148 (kb + 56) = some (.inl (cs 0, 30, .inl (ef9))) := (fr153 (kb + 56) (hq_tne hy4 hy2 (by simp)) (hq_tne hy4 hy15 (by simp)) (hq_ne kb 56 54 (by decide))).trans (ho78)
        have fx198 : V148 (kb + 57) = some (.inr (9, [.ref (kb + 57 + 1), .int (wz9)])) := (fr153 (kb + 57) (hq_tne hy5 hy2 (by simp)) (hq_ne kb 57 53 (by decide)) (hq_tne hy5 hy16 (by simp))).trans (ho80)
        have fx200 : V148 (kb + 58) = some (.inl (cs 0, 30, .inl (wf9))) := (fr153 (kb + 58) (hq_tne hy6 hy2 (by simp)) (hq_tne hy6 hy15 (by simp)) (hq_ne kb 58 54 (by decide))).trans (ho82)
        have fx202 : V148 (ch) = some (.inr (9, [.ref (ch + 1), .int (cz9)])) := (fr153 (ch) (hq_tne hy13 hy2 (by simp)) (by omega) (hq_tne hy13 hy16 (by simp))).trans (ho84)
        have fx204 : V148 (ch + 1) = some (.inl (cs 0, 30, .inl (cf9))) := (fr153 (ch + 1) (hq_tne hy14 hy2 (by simp)) (hq_tne hy14 hy15 (by simp)) (by omega)).trans (ho86)
        have fx208 : V148 (kb + 59) = some (.inl (cs 1, 2, .inl (kk))) := (fr153 (kb + 59) (hq_tne hy17 hy2 (by simp)) (hq_tne hy17 hy15 (by simp)) (hq_tne hy17 hy16 (by simp))).trans (ho92)
        have fx210 : V148 (kb + 60) = some (.inl (cs 1, 2, .inl (mm))) := (fr153 (kb + 60) (hq_tne hy18 hy2 (by simp)) (hq_tne hy18 hy15 (by simp)) (hq_tne hy18 hy16 (by simp))).trans (ho94)
        have fx212 : V148 (kb + 61) = some (.inl (cs 1, 2, .inl (tt_))) := (fr153 (kb + 61) (hq_tne hy19 hy2 (by simp)) (hq_tne hy19 hy15 (by simp)) (hq_tne hy19 hy16 (by simp))).trans (ho96)
        have pk214 := pk98.keep (fun x7 (hx7 : qt + 77 ≤ x7 ∧ x7 < qt + 77 + 5 * bk.2.2.2.length) => fr153 x7 (hq_nk hne hx7.1 (by decide)) (hq_nk hne hx7.1 (by decide)) (hq_nk hne hx7.1 (by decide)))
        have pk216 := pk100.keep (fun x7 (hx7 : qt + 15 ≤ x7 ∧ x7 < qt + 15 + 2 * bk.2.1.length) => fr153 x7 (hq_nk hne hx7.1 (by decide)) (hq_nk hne hx7.1 (by decide)) (hq_nk hne hx7.1 (by decide)))
        have pk218 := pk102.keep (fr153 (qt + 1) (hq_nkj hne (by decide)) (hq_nkj hne (by decide)) (hq_nkj hne (by decide))) (fr153 (qt + 14) (hq_nkj hne (by decide)) (hq_nkj hne (by decide)) (hq_nkj hne (by decide))) (fr153 (qt + 76) (hq_nkj hne (by decide)) (hq_nkj hne (by decide)) (hq_nkj hne (by decide)))
        have hl220 : (-2 : Int32).toInt = -2 := by decide
        suffices lp117 : ∀ (k9 : Nat) (V9 : hp_V) (H9 : Heap) (locs9 : List Loc) (ls : Array Slot) (e9 : Int32) (Y8 : sp_Y) (fd8 : Int32) (b08 : Int32) (b18 : Int32) (b28 : Int32) (b38 : Int32) (b48 : Int32) (b58 : Int32) (b68 : Int32) (t48 : Int32) (t58 : Int32) (t68 : Int32) (mw8 : Int32) (ez8 : Int32) (ef8 : Nat → Int32) (wz8 : Int32) (wf8 : Nat → Int32) (cz8 : Int32) (cf8 : Nat → Int32), (1000 - e9.toInt).toNat = k9 → hp_Z D cs B s V9 H9 n locs9 → hq_P cs G (fun _ => true) V V9 → V9 (kb + 50) = some (.inr (1, [.ref (kb + 51), .ref (kb + 52), .int (fd8), .ref (kb + 53), .ref (kb + 55), .ref (kb + 57), .ref (qt), .ref (kb), .ref (kb + 5), .int (e_sz), .ref (kb + 59), .ref (kb + 60), .ref (kb + 61)])) → V9 (kb + 51) = some (.inr (10, [.int (b08), .int (b18), .int (b28), .int (b38), .int (b48), .int (b58), .int (b68)])) → V9 (kb + 52) = some (.inr (10, [.int (r19), .int (r38), .int (r56), .int (s9), .int (t48), .int (t58), .int (t68)])) → V9 (kb + 5) = some (.inr (6, [.ref (md), .int (mw8), .ref (mh), .ref (pt), .ref (ch)])) → V9 (kb + 55) = some (.inr (9, [.ref (kb + 55 + 1), .int (ez8)])) → V9 (kb + 56) = some (.inl (cs 0, 30, .inl (ef8))) → V9 (kb + 57) = some (.inr (9, [.ref (kb + 57 + 1), .int (wz8)])) → V9 (kb + 58) = some (.inl (cs 0, 30, .inl (wf8))) → V9 (ch) = some (.inr (9, [.ref (ch + 1), .int (cz8)])) → V9 (ch + 1) = some (.inl (cs 0, 30, .inl (cf8))) → V9 (kb + 53) = some (.inr (9, [.ref (kb + 54), .int (z154)])) → V9 (kb + 54) = some (.inl (cs 0, 30, .inl (u155))) → V9 (kb + 59) = some (.inl (cs 1, 2, .inl (kk))) → V9 (kb + 60) = some (.inl (cs 1, 2, .inl (mm))) → V9 (kb + 61) = some (.inl (cs 1, 2, .inl (tt_))) → (∀ x, x ≠ kb + 50 → x ≠ kb + 51 → x ≠ kb + 52 → x ≠ kb + 53 → x ≠ kb + 54 → x ≠ kb + 55 → x ≠ kb + 56 → x ≠ kb + 5 → x ≠ kb + 57 → x ≠ kb + 58 → x ≠ ch → x ≠ ch + 1 → x ≠ kb + 59 → x ≠ kb + 60 → x ≠ kb + 61 → V9 x = V x) → hx_LL cs V9 (qt + 77) w bk.2.2.2 → hx_NL cs V9 (qt + 15) 30 w bk.2.1 → hx_BS cs V9 qt → -2 ≤ e9.toInt → e9.toInt ≤ 61 → (0 ≤ ez8.toInt ∧ ez8.toInt ≤ 30) ∧ (0 ≤ wz8.toInt ∧ wz8.toInt ≤ 30) ∧ (0 ≤ cz8.toInt ∧ cz8.toInt ≤ 30) ∧ (0 ≤ fd8.toInt ∧ fd8.toInt ≤ 1) → (hx_BW bk.2.2.2.length fd8.toInt (r19).toInt (r38).toInt (r56).toInt b08.toInt b18.toInt b28.toInt b38.toInt b48.toInt b58.toInt b68.toInt Y8) → (sp_tr (sp_M w bk.2.2.2 (sp_U w bk (sp_nm w t9)) ask) Y8 (sp_fz (sp_be bk.2.2.2 w (sp_U w bk (sp_nm w t9)) (sp_wc (r19).toInt s9.toInt (-2) (-1) (-1)) (sp_wk (r19).toInt s9.toInt (-2) (-1) (-1)) (sp_ys (r38).toInt s9.toInt) (r56).toInt) e9.toInt (61 - e9.toInt).toNat ++ (sp_fz (sp_bs bk.2.2.2 w (sp_U w bk (sp_nm w t9)) (fun i : Nat => ∀ x, bk.2.2.2[i]? = some x → ¬ sp_lp (sp_F w x) (sp_nm w t9) = -1) qq os oe) (s9.toInt + 1) ((bk.2.2.2.length : Int) - (s9.toInt + 1)).toNat ++ [])) = (sp_tr (sp_M w bk.2.2.2 (sp_U w bk (sp_nm w t9)) ask) ((1000, 9, 0, 0, 0, 0) : sp_Y) (sp_cx bk.2.2.2 w (sp_U w bk (sp_nm w t9)) (fun i : Nat => ∀ x, bk.2.2.2[i]? = some x → ¬ sp_lp (sp_F w x) (sp_nm w t9) = -1) qq os oe))) → lv_has ls 9 [(8, .int (e9)), (7, .int (s9)), (0, .ref (kb + 50)), (1, .ref (qt)), (2, .ref (kb)), (3, .ref (kb + 5)), (4, .int (v)), (5, .int (te)), (6, .int (pe))] → W p l e ({ frames := 7, cells := 0, slots := 0, locals := 170 }) s m ([.ref (kb + 50), .ref (qt), .ref (kb), .ref (kb + 5), .int (v), .int (te), .int (pe)] : List Value).toArray below meth c H9 locs9 0 0 (MQ below (hp_QI D cs B (fun r V' n' => n = n' ∧ hq_P cs G (fun _ => true) V V' ∧ (∀ x, x ≠ kb + 50 → x ≠ kb + 51 → x ≠ kb + 52 → x ≠ kb + 53 → x ≠ kb + 54 → x ≠ kb + 55 → x ≠ kb + 56 → x ≠ kb + 5 → x ≠ kb + 57 → x ≠ kb + 58 → x ≠ ch → x ≠ ch + 1 → x ≠ kb + 59 → x ≠ kb + 60 → x ≠ kb + 61 → V' x = V x) ∧ (∃ e_fd1 : Int32, ∃ bw0 : Int32, ∃ bw1 : Int32, ∃ bw2 : Int32, ∃ bw3 : Int32, ∃ bw4 : Int32, ∃ bw5 : Int32, ∃ bw6 : Int32, ∃ tw0 : Int32, ∃ tw1 : Int32, ∃ tw2 : Int32, ∃ tw3 : Int32, ∃ tw4 : Int32, ∃ tw5 : Int32, ∃ tw6 : Int32, ∃ sz1 : Int32, ∃ sf1 : Nat → Int32, ∃ ez1 : Int32, ∃ ef1 : Nat → Int32, ∃ mw1 : Int32, ∃ wz1 : Int32, ∃ wf1 : Nat → Int32, ∃ cz1 : Int32, ∃ cf1 : Nat → Int32, ∃ e_sz1 : Int32, ∃ kk1 : Nat → Int32, ∃ mm1 : Nat → Int32, ∃ tt1 : Nat → Int32, V' (kb + 50) = some (.inr (1, [.ref (kb + 51), .ref (kb + 52), .int (e_fd1), .ref (kb + 53), .ref (kb + 55), .ref (kb + 57), .ref (qt), .ref (kb), .ref (kb + 5), .int (e_sz1), .ref (kb + 59), .ref (kb + 60), .ref (kb + 61)])) ∧ V' (kb + 51) = some (.inr (10, [.int (bw0), .int (bw1), .int (bw2), .int (bw3), .int (bw4), .int (bw5), .int (bw6)])) ∧ V' (kb + 52) = some (.inr (10, [.int (tw0), .int (tw1), .int (tw2), .int (tw3), .int (tw4), .int (tw5), .int (tw6)])) ∧ V' (kb + 53) = some (.inr (9, [.ref (kb + 53 + 1), .int (sz1)])) ∧ V' (kb + 54) = some (.inl (cs 0, 30, .inl (sf1))) ∧ V' (kb + 55) = some (.inr (9, [.ref (kb + 55 + 1), .int (ez1)])) ∧ V' (kb + 56) = some (.inl (cs 0, 30, .inl (ef1))) ∧ V' (kb + 5) = some (.inr (6, [.ref (md), .int (mw1), .ref (mh), .ref (pt), .ref (ch)])) ∧ V' (kb + 57) = some (.inr (9, [.ref (kb + 57 + 1), .int (wz1)])) ∧ V' (kb + 58) = some (.inl (cs 0, 30, .inl (wf1))) ∧ V' (ch) = some (.inr (9, [.ref (ch + 1), .int (cz1)])) ∧ V' (ch + 1) = some (.inl (cs 0, 30, .inl (cf1))) ∧ V' (kb + 59) = some (.inl (cs 1, 2, .inl (kk1))) ∧ V' (kb + 60) = some (.inl (cs 1, 2, .inl (mm1))) ∧ V' (kb + 61) = some (.inl (cs 1, 2, .inl (tt1))) ∧ ((r.toInt = 1 ∧ ¬ (sp_tr (sp_M w bk.2.2.2 (sp_U w bk (sp_nm w t9)) ask) ((1000, 9, 0, 0, 0, 0) : sp_Y) (sp_wx bk.2.2.2 qq os oe)).1 = 1000 ∧ sp_hl e_sz1 kk1 mm1 tt1 (sp_tel ex os oe (sp_tr (sp_M w bk.2.2.2 (sp_U w bk (sp_nm w t9)) ask) ((1000, 9, 0, 0, 0, 0) : sp_Y) (sp_wx bk.2.2.2 qq os oe)).2.2.1 (sp_tr (sp_M w bk.2.2.2 (sp_U w bk (sp_nm w t9)) ask) ((1000, 9, 0, 0, 0, 0) : sp_Y) (sp_wx bk.2.2.2 qq os oe)).2.2.2.1 (sp_tr (sp_M w bk.2.2.2 (sp_U w bk (sp_nm w t9)) ask) ((1000, 9, 0, 0, 0, 0) : sp_Y) (sp_wx bk.2.2.2 qq os oe)).2.2.2.2.1 (sp_tr (sp_M w bk.2.2.2 (sp_U w bk (sp_nm w t9)) ask) ((1000, 9, 0, 0, 0, 0) : sp_Y) (sp_wx bk.2.2.2 qq os oe)).2.2.2.2.2)) ∨ (r.toInt = 0 ∧ (sp_tr (sp_M w bk.2.2.2 (sp_U w bk (sp_nm w t9)) ask) ((1000, 9, 0, 0, 0, 0) : sp_Y) (sp_wx bk.2.2.2 qq os oe)).1 = 1000 ∧ e_sz1 = e_sz ∧ kk1 = kk ∧ mm1 = mm ∧ tt1 = tt_)) ∧ ((0 ≤ e_fd1.toInt ∧ e_fd1.toInt ≤ 1) ∧ (0 ≤ e_sz1.toInt ∧ e_sz1.toInt ≤ 2))))) ([.ref (kb + 50), .ref (qt), .ref (kb), .ref (kb + 5), .int (v), .int (te), .int (pe)] : List Value).toArray s 0 0 (hp_F B)) (F0 m 117 ls []) from lp117 _ _ _ _ ls (-2) (Y9) (fd9) (b09) (b19) (b29) (b39) (b49) (b59) (b69) (t49) (t59) (t69) (mw9) (ez9) (ef9) (wz9) (wf9) (cz9) (cf9) rfl hZ hP fx187 fx189 ho156 fx192 fx194 fx196 fx198 fx200 fx202 fx204 ho157 ho158 fx208 fx210 fx212 (fun x8 hne0 hne1 hne2 hne3 hne4 hne5 hne6 hne7 hne8 hne9 hne10 hne11 hne12 hne13 hne14 => (fr153 x8 hne2 hne3 hne4).trans (fr90 x8 hne0 hne1 hne2 hne3 hne4 hne5 hne6 hne7 hne8 hne9 hne10 hne11 hne12 hne13 hne14)) pk214 pk216 pk218 (by omega) (by omega) (by omega) (hbw9) (by rw [show ((-2) : Int32).toInt = -2 by decide, show ((61 : Int) - (-2)).toNat = 63 by decide]; exact hop) (lv_sub hl [0, 1, 2, 3, 4, 5, 6, 7, 8] rfl)
        intro k9
        induction k9 using Nat.strongRecOn with
        | _ k9 ih117 =>
          intro V9 H9 locs9 ls e9 Y8 fd8 b08 b18 b28 b38 b48 b58 b68 t48 t58 t68 mw8 ez8 ef8 wz8 wf8 cz8 cf8 hk117 hZ hP ho188 ho190 ho191 ho193 ho195 ho197 ho199 ho201 ho203 ho205 ho206 ho207 ho209 ho211 ho213 fr117 pk215 pk217 pk219 hv221 hv222 hv223 hbw8 hte hl
          have hb_e9 := hq_rng e9
          have hb_fd8 := hq_rng fd8
          have hb_b08 := hq_rng b08
          have hb_b18 := hq_rng b18
          have hb_b28 := hq_rng b28
          have hb_b38 := hq_rng b38
          have hb_b48 := hq_rng b48
          have hb_b58 := hq_rng b58
          have hb_b68 := hq_rng b68
          have hb_t48 := hq_rng t48
          have hb_t58 := hq_rng t58
          have hb_t68 := hq_rng t68
          have hb_mw8 := hq_rng mw8
          have hb_ez8 := hq_rng ez8
          have hb_wz8 := hq_rng wz8
          have hb_cz8 := hq_rng cz8
          have hf224 := hq_rgB hP.1 hy4 ho197
          have hf225 := hq_rgB hP.1 hy6 ho201
          have hf226 := hq_rgB hP.1 hy14 ho205
          have hf227 := hq_rgB hP.1 hy16 ho207
          have hf228 := hq_rg2 hP.1 hy17 ho209
          have hf229 := hq_rg2 hP.1 hy18 ho211
          have hf230 := hq_rg2 hP.1 hy19 ho213
          refine lv_iload hx hb dX1_explain_117 (lv_at hl 0 rfl) ?_
          refine lv_bipush (v := 60) hx hb dX1_explain_119 (by decide) ?_
          refine lv_icmp_gt (tgt := 150) hx hb dX1_explain_121 (by decide) (fun c231 => ?_) (fun c231 => ?_)
          · have c231 : (60 : Int) < (e9).toInt := hq_lti.mp c231
            obtain ⟨y232, ey233⟩ : ∃ y : Int32, y = s9 + (1) := ⟨_, rfl⟩
            obtain ⟨k234, hk235, b236, b237⟩ := hq_add (s9) (1)
            rw [← ey233] at hk235 b236 b237
            have hk235 : (y232).toInt = (s9).toInt + (1) + k234 * 4294967296 := hk235
            obtain rfl : k234 = 0 := by omega
            refine lv_iinc (v := y232) (lv' := [(7, .int (y232)), (8, .int (e9)), (0, .ref (kb + 50)), (1, .ref (qt)), (2, .ref (kb)), (3, .ref (kb + 5)), (4, .int (v)), (5, .int (te)), (6, .int (pe))]) hx hb dX1_explain_150 hl (k := 1) rfl (by rw [ey233]; rfl) (by decide) rfl (fun ls hl => ?_)
            refine lv_goto (tgt := 90) hx hb dX1_explain_153 (by decide) ?_
            exact ih90 _ (by omega) _ _ _ ls (y232) (Y8) (fd8) (b08) (b18) (b28) (b38) (b48) (b58) (b68) (s9) (t48) (t58) (t68) (mw8) (ez8) (ef8) (wz8) (wf8) (cz8) (cf8) (z154) (u155) rfl hZ hP ho188 ho190 ho191 ho193 ho195 ho197 ho199 ho201 ho203 ho205 ho206 ho207 ho209 ho211 ho213 (fun x8 hne0 hne1 hne2 hne3 hne4 hne5 hne6 hne7 hne8 hne9 hne10 hne11 hne12 hne13 hne14 => fr117 x8 hne0 hne1 hne2 hne3 hne4 hne5 hne6 hne7 hne8 hne9 hne10 hne11 hne12 hne13 hne14) pk215 pk217 pk219 (by omega) (by omega) (by omega) (hbw8) (by rw [show (y232).toInt = s9.toInt + 1 by omega]; exact sp_fz_end (by omega) hte) (lv_sub hl [0, 2, 3, 4, 5, 6, 7, 8] rfl)
          · have c231 : ¬ (60 : Int) < (e9).toInt := fun h9 => c231 (hq_lti.mpr h9)
            refine lv_aload_n hx hb dX1_explain_124 rfl (lv_at hl 2 rfl) ?_
            refine lv_iload hx hb dX1_explain_125 (lv_at hl 0 rfl) ?_
            have fx238 : V9 (qt) = some (.inr (0, [.ref (qt + 1), .int (bc), .ref (qt + 14), .ref (qt + 75), .int (bv), .ref (qt + 76), .int (bl)])) := (fr117 (qt) (hq_nk0 hne (by decide)) (hq_nk0 hne (by decide)) (hq_nk0 hne (by decide)) (hq_nk0 hne (by decide)) (hq_nk0 hne (by decide)) (hq_nk0 hne (by decide)) (hq_nk0 hne (by decide)) (hq_nk0 hne (by decide)) (hq_nk0 hne (by decide)) (hq_nk0 hne (by decide)) (hq_nc0 hne hsh.2.2.2) (hq_nc10 hne hsh.2.2.2) (hq_nk0 hne (by decide)) (hq_nk0 hne (by decide)) (hq_nk0 hne (by decide))).trans (hc14)
            refine hp_calli (hp_runV (As := [.int (e9)]) (rest := []) hx hb hml hown hts (x_epe l D cs B G V9 n hP.1 (kb) (qt) (bb) (w) (bk) (fd8) (e_sz) (e9) (bc) (bv) (bl) (r19) (r38) (r56) (s9) (t48) (t58) (t68) (z154) (u155) (ez8) (ef8) ((sp_stm w bk (sp_nm w t9) (sp_ys (r38).toInt s9.toInt))) hy0 hy2 hy15 hy16 hy3 hy4 ho188 ho191 fx238 ho206 ho207 ho195 ho197 pk215 pk219 hbl hgd hgd2 hBT hpw (sp_U_len hg8 hnl (sp_ys (r38).toInt s9.toInt) (-1)).1 hrh1 (by omega) (by omega) hne (by omega)) hZ ho188 cv_X1_87 rfl rfl ⟨Nat.le_of_ble_eq_true rfl, Nat.le_of_ble_eq_true rfl⟩ rfl hl.1 rfl (Nat.le_of_ble_eq_true rfl) dX1_explain_127 ⟨(Nat.le_of_ble_eq_true rfl), (Nat.le_of_ble_eq_true rfl)⟩) hZ (fun r242 V239 n240 _ _ hw241 hZ => ?_)
            obtain ⟨rfl, hq243, fr244, z245, z246, z247, z248, u249, ho250, ho251, ho252, hp253, hp254⟩ := hw241
            have b255 := hq_rng z245
            have b256 := hq_rng z246
            have b257 := hq_rng z247
            have b258 := hq_rng z248
            have hP := hP.trans hq243 (fun _ h => Bool.noConfusion h)
            have hf259 := hq_rgB hP.1 hy4 ho252
            have b260 := hq_rng r242
            have hpe := hp253
            have b261 := hp254
            refine lv_if_eq (tgt := 144) hx hb dX1_explain_130 (by decide) (fun c262 => ?_) (fun c262 => ?_)
            · have c262 : (r242).toInt = (0 : Int) := hq_eqi.mp c262
              have hen := (show (e9.toInt = -2 ∧ (r56).toInt = -1) ∨ (¬ e9.toInt = -2 ∧ ¬ e9.toInt = 60 ∧ ¬ (0 ≤ e9.toInt ∧ e9.toInt < (bk.2.2.2.length : Int) ∧ sp_kd bk.2.2.2 e9.toInt.toNat = 1 ∧ ¬ e9.toInt = (r56).toInt)) by rcases hpe with g9 | g9; (· omega); (· exact g9.2))
              obtain ⟨y263, ey264⟩ : ∃ y : Int32, y = e9 + (1) := ⟨_, rfl⟩
              obtain ⟨k265, hk266, b267, b268⟩ := hq_add (e9) (1)
              rw [← ey264] at hk266 b267 b268
              have hk266 : (y263).toInt = (e9).toInt + (1) + k265 * 4294967296 := hk266
              obtain rfl : k265 = 0 := by omega
              refine lv_iinc (v := y263) (lv' := [(8, .int (y263)), (7, .int (s9)), (0, .ref (kb + 50)), (1, .ref (qt)), (2, .ref (kb)), (3, .ref (kb + 5)), (4, .int (v)), (5, .int (te)), (6, .int (pe))]) hx hb dX1_explain_144 hl (k := 0) rfl (by rw [ey264]; rfl) (by decide) rfl (fun ls hl => ?_)
              refine lv_goto (tgt := 117) hx hb dX1_explain_147 (by decide) ?_
              have fx269 : V239 (kb + 50) = some (.inr (1, [.ref (kb + 51), .ref (kb + 52), .int (fd8), .ref (kb + 53), .ref (kb + 55), .ref (kb + 57), .ref (qt), .ref (kb), .ref (kb + 5), .int (e_sz), .ref (kb + 59), .ref (kb + 60), .ref (kb + 61)])) := (fr244 (kb + 50) (hq_tne hy0 hy2 (by simp)) (hq_tne hy0 hy3 (by simp)) (hq_tne hy0 hy4 (by simp))).trans (ho188)
              have fx270 : V239 (kb + 51) = some (.inr (10, [.int (b08), .int (b18), .int (b28), .int (b38), .int (b48), .int (b58), .int (b68)])) := (fr244 (kb + 51) (hq_ne kb 51 52 (by decide)) (hq_tne hy1 hy3 (by simp)) (hq_tne hy1 hy4 (by simp))).trans (ho190)
              have fx271 : V239 (kb + 5) = some (.inr (6, [.ref (md), .int (mw8), .ref (mh), .ref (pt), .ref (ch)])) := (fr244 (kb + 5) (hq_tne hy9 hy2 (by simp)) (hq_tne hy9 hy3 (by simp)) (hq_tne hy9 hy4 (by simp))).trans (ho193)
              have fx272 : V239 (kb + 57) = some (.inr (9, [.ref (kb + 57 + 1), .int (wz8)])) := (fr244 (kb + 57) (hq_tne hy5 hy2 (by simp)) (hq_ne kb 57 55 (by decide)) (hq_tne hy5 hy4 (by simp))).trans (ho199)
              have fx273 : V239 (kb + 58) = some (.inl (cs 0, 30, .inl (wf8))) := (fr244 (kb + 58) (hq_tne hy6 hy2 (by simp)) (hq_tne hy6 hy3 (by simp)) (hq_ne kb 58 56 (by decide))).trans (ho201)
              have fx274 : V239 (ch) = some (.inr (9, [.ref (ch + 1), .int (cz8)])) := (fr244 (ch) (hq_tne hy13 hy2 (by simp)) (by omega) (hq_tne hy13 hy4 (by simp))).trans (ho203)
              have fx275 : V239 (ch + 1) = some (.inl (cs 0, 30, .inl (cf8))) := (fr244 (ch + 1) (hq_tne hy14 hy2 (by simp)) (hq_tne hy14 hy3 (by simp)) (by omega)).trans (ho205)
              have fx276 : V239 (kb + 53) = some (.inr (9, [.ref (kb + 54), .int (z154)])) := (fr244 (kb + 53) (hq_tne hy15 hy2 (by simp)) (hq_ne kb 53 55 (by decide)) (hq_tne hy15 hy4 (by simp))).trans (ho206)
              have fx277 : V239 (kb + 54) = some (.inl (cs 0, 30, .inl (u155))) := (fr244 (kb + 54) (hq_tne hy16 hy2 (by simp)) (hq_tne hy16 hy3 (by simp)) (hq_ne kb 54 56 (by decide))).trans (ho207)
              have fx278 : V239 (kb + 59) = some (.inl (cs 1, 2, .inl (kk))) := (fr244 (kb + 59) (hq_tne hy17 hy2 (by simp)) (hq_tne hy17 hy3 (by simp)) (hq_tne hy17 hy4 (by simp))).trans (ho209)
              have fx279 : V239 (kb + 60) = some (.inl (cs 1, 2, .inl (mm))) := (fr244 (kb + 60) (hq_tne hy18 hy2 (by simp)) (hq_tne hy18 hy3 (by simp)) (hq_tne hy18 hy4 (by simp))).trans (ho211)
              have fx280 : V239 (kb + 61) = some (.inl (cs 1, 2, .inl (tt_))) := (fr244 (kb + 61) (hq_tne hy19 hy2 (by simp)) (hq_tne hy19 hy3 (by simp)) (hq_tne hy19 hy4 (by simp))).trans (ho213)
              have pk281 := pk215.keep (fun x7 (hx7 : qt + 77 ≤ x7 ∧ x7 < qt + 77 + 5 * bk.2.2.2.length) => fr244 x7 (hq_nk hne hx7.1 (by decide)) (hq_nk hne hx7.1 (by decide)) (hq_nk hne hx7.1 (by decide)))
              have pk282 := pk217.keep (fun x7 (hx7 : qt + 15 ≤ x7 ∧ x7 < qt + 15 + 2 * bk.2.1.length) => fr244 x7 (hq_nk hne hx7.1 (by decide)) (hq_nk hne hx7.1 (by decide)) (hq_nk hne hx7.1 (by decide)))
              have pk283 := pk219.keep (fr244 (qt + 1) (hq_nkj hne (by decide)) (hq_nkj hne (by decide)) (hq_nkj hne (by decide))) (fr244 (qt + 14) (hq_nkj hne (by decide)) (hq_nkj hne (by decide)) (hq_nkj hne (by decide))) (fr244 (qt + 76) (hq_nkj hne (by decide)) (hq_nkj hne (by decide)) (hq_nkj hne (by decide)))
              exact ih117 _ (by omega) _ _ _ ls (y263) (Y8) (fd8) (b08) (b18) (b28) (b38) (b48) (b58) (b68) (z245) (z246) (z247) (mw8) (z248) (u249) (wz8) (wf8) (cz8) (cf8) rfl hZ hP fx269 fx270 ho250 fx271 ho251 ho252 fx272 fx273 fx274 fx275 fx276 fx277 fx278 fx279 fx280 (fun x8 hne0 hne1 hne2 hne3 hne4 hne5 hne6 hne7 hne8 hne9 hne10 hne11 hne12 hne13 hne14 => (fr244 x8 hne2 hne5 hne6).trans (fr117 x8 hne0 hne1 hne2 hne3 hne4 hne5 hne6 hne7 hne8 hne9 hne10 hne11 hne12 hne13 hne14)) pk281 pk282 pk283 (by omega) (by omega) (by omega) (hbw8) (by rw [show (y263).toInt = e9.toInt + 1 by omega]; exact sp_fz_in (by omega) hte (by rw [sp_be_no hen]; rfl)) (lv_sub hl [0, 1, 2, 3, 4, 5, 6, 7, 8] rfl)
            · have c262 : ¬ (r242).toInt = (0 : Int) := fun h9 => c262 (hq_eqi.mpr h9)
              obtain ⟨hev, hek, he4, he5, hew⟩ : sp_ve bk.2.2.2.length (r56).toInt e9.toInt ∧ (0 ≤ e9.toInt → ¬ e9.toInt = 60 → sp_kd bk.2.2.2 e9.toInt.toNat = 1) ∧ (z245).toInt = e9.toInt ∧ ((z246).toInt = -1 ∧ (z247).toInt = -1) ∧ sp_rp z248 u249 (sp_end w bk (sp_stm w bk (sp_nm w t9) (sp_ys (r38).toInt s9.toInt)) (sp_ye (r56).toInt e9.toInt)) := by rcases hpe with g9 | g9; (· exact g9.2); (· omega)
              have hew2 : sp_rp z248 u249 (sp_U w bk (sp_nm w t9) (sp_ys (r38).toInt s9.toInt) (sp_ye (r56).toInt (z245).toInt)) := by rw [he4]; exact hew
              have hew1 := hew.1
              refine lv_aload_n hx hb dX1_explain_133 rfl (lv_at hl 2 rfl) ?_
              have fx284 : V239 (kb + 50) = some (.inr (1, [.ref (kb + 51), .ref (kb + 52), .int (fd8), .ref (kb + 53), .ref (kb + 55), .ref (kb + 57), .ref (qt), .ref (kb), .ref (kb + 5), .int (e_sz), .ref (kb + 59), .ref (kb + 60), .ref (kb + 61)])) := (fr244 (kb + 50) (hq_tne hy0 hy2 (by simp)) (hq_tne hy0 hy3 (by simp)) (hq_tne hy0 hy4 (by simp))).trans (ho188)
              have fx285 : V239 (kb + 51) = some (.inr (10, [.int (b08), .int (b18), .int (b28), .int (b38), .int (b48), .int (b58), .int (b68)])) := (fr244 (kb + 51) (hq_ne kb 51 52 (by decide)) (hq_tne hy1 hy3 (by simp)) (hq_tne hy1 hy4 (by simp))).trans (ho190)
              refine hp_calli (hp_runV (As := []) (rest := []) hx hb hml hown hts (x_better l D cs B G V239 n hP.1 (kb) (qt) (w) (bk) (Y8) (fd8) (e_sz) (b08) (b18) (b28) (b38) (b48) (b58) (b68) (r19) (r38) (r56) (s9) (z245) (z246) (z247)  fx284 fx285 ho250  hbw8) hZ fx284 cv_X1_91 rfl rfl ⟨Nat.le_of_ble_eq_true rfl, Nat.le_of_ble_eq_true rfl⟩ rfl hl.1 rfl (Nat.le_of_ble_eq_true rfl) dX1_explain_134 ⟨(Nat.le_of_ble_eq_true rfl), (Nat.le_of_ble_eq_true rfl)⟩) hZ (fun r289 V286 n287 _ _ hw288 hZ => ?_)
              obtain ⟨rfl, rfl, hp292⟩ := hw288
              have b293 := hq_rng r289
              have hbt := hp292
              rw [he4, he5.1, he5.2] at hbt
              refine lv_if_eq (tgt := 144) hx hb dX1_explain_137 (by decide) (fun c294 => ?_) (fun c294 => ?_)
              · have c294 : (r289).toInt = (0 : Int) := hq_eqi.mp c294
                have hbn : ¬ ((sp_wk (r19).toInt s9.toInt e9.toInt (-1) (-1)) ≤ 2 ∧ ((sp_wc (r19).toInt s9.toInt e9.toInt (-1) (-1)) < Y8.1 ∨ ((sp_wc (r19).toInt s9.toInt e9.toInt (-1) (-1)) = Y8.1 ∧ (sp_wk (r19).toInt s9.toInt e9.toInt (-1) (-1)) < Y8.2.1))) := by rcases hbt with g9 | g9; (· omega); (· exact g9.2)
                obtain ⟨y295, ey296⟩ : ∃ y : Int32, y = e9 + (1) := ⟨_, rfl⟩
                obtain ⟨k297, hk298, b299, b300⟩ := hq_add (e9) (1)
                rw [← ey296] at hk298 b299 b300
                have hk298 : (y295).toInt = (e9).toInt + (1) + k297 * 4294967296 := hk298
                obtain rfl : k297 = 0 := by omega
                refine lv_iinc (v := y295) (lv' := [(8, .int (y295)), (7, .int (s9)), (0, .ref (kb + 50)), (1, .ref (qt)), (2, .ref (kb)), (3, .ref (kb + 5)), (4, .int (v)), (5, .int (te)), (6, .int (pe))]) hx hb dX1_explain_144 hl (k := 0) rfl (by rw [ey296]; rfl) (by decide) rfl (fun ls hl => ?_)
                refine lv_goto (tgt := 117) hx hb dX1_explain_147 (by decide) ?_
                have fx301 : V239 (kb + 5) = some (.inr (6, [.ref (md), .int (mw8), .ref (mh), .ref (pt), .ref (ch)])) := (fr244 (kb + 5) (hq_tne hy9 hy2 (by simp)) (hq_tne hy9 hy3 (by simp)) (hq_tne hy9 hy4 (by simp))).trans (ho193)
                have fx302 : V239 (kb + 57) = some (.inr (9, [.ref (kb + 57 + 1), .int (wz8)])) := (fr244 (kb + 57) (hq_tne hy5 hy2 (by simp)) (hq_ne kb 57 55 (by decide)) (hq_tne hy5 hy4 (by simp))).trans (ho199)
                have fx303 : V239 (kb + 58) = some (.inl (cs 0, 30, .inl (wf8))) := (fr244 (kb + 58) (hq_tne hy6 hy2 (by simp)) (hq_tne hy6 hy3 (by simp)) (hq_ne kb 58 56 (by decide))).trans (ho201)
                have fx304 : V239 (ch) = some (.inr (9, [.ref (ch + 1), .int (cz8)])) := (fr244 (ch) (hq_tne hy13 hy2 (by simp)) (by omega) (hq_tne hy13 hy4 (by simp))).trans (ho203)
                have fx305 : V239 (ch + 1) = some (.inl (cs 0, 30, .inl (cf8))) := (fr244 (ch + 1) (hq_tne hy14 hy2 (by simp)) (hq_tne hy14 hy3 (by simp)) (by omega)).trans (ho205)
                have fx306 : V239 (kb + 53) = some (.inr (9, [.ref (kb + 54), .int (z154)])) := (fr244 (kb + 53) (hq_tne hy15 hy2 (by simp)) (hq_ne kb 53 55 (by decide)) (hq_tne hy15 hy4 (by simp))).trans (ho206)
                have fx307 : V239 (kb + 54) = some (.inl (cs 0, 30, .inl (u155))) := (fr244 (kb + 54) (hq_tne hy16 hy2 (by simp)) (hq_tne hy16 hy3 (by simp)) (hq_ne kb 54 56 (by decide))).trans (ho207)
                have fx308 : V239 (kb + 59) = some (.inl (cs 1, 2, .inl (kk))) := (fr244 (kb + 59) (hq_tne hy17 hy2 (by simp)) (hq_tne hy17 hy3 (by simp)) (hq_tne hy17 hy4 (by simp))).trans (ho209)
                have fx309 : V239 (kb + 60) = some (.inl (cs 1, 2, .inl (mm))) := (fr244 (kb + 60) (hq_tne hy18 hy2 (by simp)) (hq_tne hy18 hy3 (by simp)) (hq_tne hy18 hy4 (by simp))).trans (ho211)
                have fx310 : V239 (kb + 61) = some (.inl (cs 1, 2, .inl (tt_))) := (fr244 (kb + 61) (hq_tne hy19 hy2 (by simp)) (hq_tne hy19 hy3 (by simp)) (hq_tne hy19 hy4 (by simp))).trans (ho213)
                have pk311 := pk215.keep (fun x7 (hx7 : qt + 77 ≤ x7 ∧ x7 < qt + 77 + 5 * bk.2.2.2.length) => fr244 x7 (hq_nk hne hx7.1 (by decide)) (hq_nk hne hx7.1 (by decide)) (hq_nk hne hx7.1 (by decide)))
                have pk312 := pk217.keep (fun x7 (hx7 : qt + 15 ≤ x7 ∧ x7 < qt + 15 + 2 * bk.2.1.length) => fr244 x7 (hq_nk hne hx7.1 (by decide)) (hq_nk hne hx7.1 (by decide)) (hq_nk hne hx7.1 (by decide)))
                have pk313 := pk219.keep (fr244 (qt + 1) (hq_nkj hne (by decide)) (hq_nkj hne (by decide)) (hq_nkj hne (by decide))) (fr244 (qt + 14) (hq_nkj hne (by decide)) (hq_nkj hne (by decide)) (hq_nkj hne (by decide))) (fr244 (qt + 76) (hq_nkj hne (by decide)) (hq_nkj hne (by decide)) (hq_nkj hne (by decide)))
                exact ih117 _ (by omega) _ _ _ ls (y295) (Y8) (fd8) (b08) (b18) (b28) (b38) (b48) (b58) (b68) (z245) (z246) (z247) (mw8) (z248) (u249) (wz8) (wf8) (cz8) (cf8) rfl hZ hP fx284 fx285 ho250 fx301 ho251 ho252 fx302 fx303 fx304 fx305 fx306 fx307 fx308 fx309 fx310 (fun x8 hne0 hne1 hne2 hne3 hne4 hne5 hne6 hne7 hne8 hne9 hne10 hne11 hne12 hne13 hne14 => (fr244 x8 hne2 hne5 hne6).trans (fr117 x8 hne0 hne1 hne2 hne3 hne4 hne5 hne6 hne7 hne8 hne9 hne10 hne11 hne12 hne13 hne14)) pk311 pk312 pk313 (by omega) (by omega) (by omega) (hbw8) (by rw [show (y295).toInt = e9.toInt + 1 by omega]; exact sp_fz_in (by omega) hte (sp_be_skip hev hek (by omega) hbn)) (lv_sub hl [0, 1, 2, 3, 4, 5, 6, 7, 8] rfl)
              · have c294 : ¬ (r289).toInt = (0 : Int) := fun h9 => c294 (hq_eqi.mpr h9)
                have hby : ((sp_wk (r19).toInt s9.toInt e9.toInt (-1) (-1)) ≤ 2 ∧ ((sp_wc (r19).toInt s9.toInt e9.toInt (-1) (-1)) < Y8.1 ∨ ((sp_wc (r19).toInt s9.toInt e9.toInt (-1) (-1)) = Y8.1 ∧ (sp_wk (r19).toInt s9.toInt e9.toInt (-1) (-1)) < Y8.2.1))) := by rcases hbt with g9 | g9; (· exact g9.2); (· omega)
                refine lv_aload_n hx hb dX1_explain_140 rfl (lv_at hl 2 rfl) ?_
                have fx314 : V239 (kb + 57) = some (.inr (9, [.ref (kb + 57 + 1), .int (wz8)])) := (fr244 (kb + 57) (hq_tne hy5 hy2 (by simp)) (hq_ne kb 57 55 (by decide)) (hq_tne hy5 hy4 (by simp))).trans (ho199)
                have fx315 : V239 (kb + 58) = some (.inl (cs 0, 30, .inl (wf8))) := (fr244 (kb + 58) (hq_tne hy6 hy2 (by simp)) (hq_tne hy6 hy3 (by simp)) (hq_ne kb 58 56 (by decide))).trans (ho201)
                have fx316 : V239 (kb) = some (.inr (9, [.ref (kb + 1), .int (pz)])) := (fr244 (kb) (hq_tne hy7 hy2 (by simp)) (hq_tne hy7 hy3 (by simp)) (hq_tne hy7 hy4 (by simp))).trans ((fr117 (kb) (hq_tne hy7 hy0 (by simp)) (hq_tne hy7 hy1 (by simp)) (hq_tne hy7 hy2 (by simp)) (hq_tne hy7 hy15 (by simp)) (hq_tne hy7 hy16 (by simp)) (hq_tne hy7 hy3 (by simp)) (hq_tne hy7 hy4 (by simp)) (hq_tne hy7 hy9 (by simp)) (hq_tne hy7 hy5 (by simp)) (hq_tne hy7 hy6 (by simp)) (hq_tne hy7 hy13 (by simp)) (hq_tne hy7 hy14 (by simp)) (hq_tne hy7 hy17 (by simp)) (hq_tne hy7 hy18 (by simp)) (hq_tne hy7 hy19 (by simp))).trans (hc9))
                have fx317 : V239 (kb + 1) = some (.inl (cs 0, 4000, .inl (pf))) := (fr244 (kb + 1) (hq_tne hy8 hy2 (by simp)) (hq_tne hy8 hy3 (by simp)) (hq_tne hy8 hy4 (by simp))).trans ((fr117 (kb + 1) (hq_tne hy8 hy0 (by simp)) (hq_tne hy8 hy1 (by simp)) (hq_tne hy8 hy2 (by simp)) (hq_tne hy8 hy15 (by simp)) (hq_tne hy8 hy16 (by simp)) (hq_tne hy8 hy3 (by simp)) (hq_tne hy8 hy4 (by simp)) (hq_tne hy8 hy9 (by simp)) (hq_tne hy8 hy5 (by simp)) (hq_tne hy8 hy6 (by simp)) (hq_tne hy8 hy13 (by simp)) (hq_tne hy8 hy14 (by simp)) (hq_tne hy8 hy17 (by simp)) (hq_tne hy8 hy18 (by simp)) (hq_tne hy8 hy19 (by simp))).trans (hc10))
                have fx318 : V239 (kb + 5) = some (.inr (6, [.ref (md), .int (mw8), .ref (mh), .ref (pt), .ref (ch)])) := (fr244 (kb + 5) (hq_tne hy9 hy2 (by simp)) (hq_tne hy9 hy3 (by simp)) (hq_tne hy9 hy4 (by simp))).trans (ho193)
                have fx319 : V239 (ch) = some (.inr (9, [.ref (ch + 1), .int (cz8)])) := (fr244 (ch) (hq_tne hy13 hy2 (by simp)) (by omega) (hq_tne hy13 hy4 (by simp))).trans (ho203)
                have fx320 : V239 (ch + 1) = some (.inl (cs 0, 30, .inl (cf8))) := (fr244 (ch + 1) (hq_tne hy14 hy2 (by simp)) (hq_tne hy14 hy3 (by simp)) (by omega)).trans (ho205)
                have fx321 : V239 (qt) = some (.inr (0, [.ref (qt + 1), .int (bc), .ref (qt + 14), .ref (qt + 75), .int (bv), .ref (qt + 76), .int (bl)])) := (fr244 (qt) (hq_nk0 hne (by decide)) (hq_nk0 hne (by decide)) (hq_nk0 hne (by decide))).trans (fx238)
                have pk322 := pk215.keep (fun x7 (hx7 : qt + 77 ≤ x7 ∧ x7 < qt + 77 + 5 * bk.2.2.2.length) => fr244 x7 (hq_nk hne hx7.1 (by decide)) (hq_nk hne hx7.1 (by decide)) (hq_nk hne hx7.1 (by decide)))
                have pk323 := pk219.keep (fr244 (qt + 1) (hq_nkj hne (by decide)) (hq_nkj hne (by decide)) (hq_nkj hne (by decide))) (fr244 (qt + 14) (hq_nkj hne (by decide)) (hq_nkj hne (by decide)) (hq_nkj hne (by decide))) (fr244 (qt + 76) (hq_nkj hne (by decide)) (hq_nkj hne (by decide)) (hq_nkj hne (by decide)))
                refine hp_callv (hp_runV (As := []) (rest := []) hx hb hml hown hts (x_trySounds l D cs B G V239 n hP.1 (kb) (qt) (md) (mh) (pt) (ch) (bb) (t9) (w) (bk) (Y8) (ask) (fd8) (e_sz) (mw8) (bc) (bv) (bl) (b08) (b18) (b28) (b38) (b48) (b58) (b68) (r19) (r38) (r56) (s9) (z245) (z246) (z247) (z248) (u249) (wz8) (wf8) (pz) (pf) (cz8) (cf8) hy0 hy1 hy2 hy3 hy4 hy5 hy6 hy7 hy8 hy9 hy10 hy11 hy12 hy13 hy14 fx284 fx285 ho250 ho251 ho252 fx314 fx315 fx316 fx317 fx318 fx319 fx320 fx321 pk322 pk323 hbl hgd hgd2 hBT hask hew2 ⟨sp_U_le hg8 hnl _ _, by omega, by omega, by omega⟩ hne hsh hbw8 hpv (show sp_ve bk.2.2.2.length (r56).toInt (z245).toInt by rw [he4]; exact hev) (by omega) (by omega) he5) hZ fx284 cv_X1_95 rfl rfl ⟨Nat.le_of_ble_eq_true rfl, Nat.le_of_ble_eq_true rfl⟩ rfl hl.1 rfl (Nat.le_of_ble_eq_true rfl) dX1_explain_141 ⟨(Nat.le_of_ble_eq_true rfl), (Nat.le_of_ble_eq_true rfl)⟩) hZ (fun V324 n325 _ _ hw326 hZ => ?_)
                obtain ⟨rfl, hq328, fr329, z330, z331, z332, z333, z334, z335, z336, z337, z338, z339, u340, z341, u342, z343, z344, ho345, ho346, ho347, ho348, ho349, ho350, ho351, ho352, hp353, hp354⟩ := hw326
                have b355 := hq_rng z330
                have b356 := hq_rng z331
                have b357 := hq_rng z332
                have b358 := hq_rng z333
                have b359 := hq_rng z334
                have b360 := hq_rng z335
                have b361 := hq_rng z336
                have b362 := hq_rng z337
                have b363 := hq_rng z338
                have b364 := hq_rng z339
                have b365 := hq_rng z341
                have b366 := hq_rng z343
                have b367 := hq_rng z344
                have hP := hP.trans hq328 (fun _ h => Bool.noConfusion h)
                have hf368 := hq_rgB hP.1 hy6 ho349
                have hf369 := hq_rgB hP.1 hy14 ho351
                have hbwn := hp353
                rw [he4] at hbwn
                have b370 := hp354
                obtain ⟨y371, ey372⟩ : ∃ y : Int32, y = e9 + (1) := ⟨_, rfl⟩
                obtain ⟨k373, hk374, b375, b376⟩ := hq_add (e9) (1)
                rw [← ey372] at hk374 b375 b376
                have hk374 : (y371).toInt = (e9).toInt + (1) + k373 * 4294967296 := hk374
                obtain rfl : k373 = 0 := by omega
                refine lv_iinc (v := y371) (lv' := [(8, .int (y371)), (7, .int (s9)), (0, .ref (kb + 50)), (1, .ref (qt)), (2, .ref (kb)), (3, .ref (kb + 5)), (4, .int (v)), (5, .int (te)), (6, .int (pe))]) hx hb dX1_explain_144 hl (k := 0) rfl (by rw [ey372]; rfl) (by decide) rfl (fun ls hl => ?_)
                refine lv_goto (tgt := 117) hx hb dX1_explain_147 (by decide) ?_
                have fx377 : V324 (kb + 55) = some (.inr (9, [.ref (kb + 56), .int (z248)])) := (fr329 (kb + 55) (hq_tne hy3 hy0 (by simp)) (hq_tne hy3 hy1 (by simp)) (hq_tne hy3 hy2 (by simp)) (hq_ne kb 55 57 (by decide)) (hq_tne hy3 hy6 (by simp)) (hq_tne hy3 hy9 (by simp)) (by omega) (hq_tne hy3 hy14 (by simp))).trans (ho251)
                have fx378 : V324 (kb + 56) = some (.inl (cs 0, 30, .inl (u249))) := (fr329 (kb + 56) (hq_tne hy4 hy0 (by simp)) (hq_tne hy4 hy1 (by simp)) (hq_tne hy4 hy2 (by simp)) (hq_tne hy4 hy5 (by simp)) (hq_ne kb 56 58 (by decide)) (hq_tne hy4 hy9 (by simp)) (hq_tne hy4 hy13 (by simp)) (by omega)).trans (ho252)
                have fx379 : V324 (kb + 53) = some (.inr (9, [.ref (kb + 54), .int (z154)])) := (fr329 (kb + 53) (hq_tne hy15 hy0 (by simp)) (hq_tne hy15 hy1 (by simp)) (hq_tne hy15 hy2 (by simp)) (hq_ne kb 53 57 (by decide)) (hq_tne hy15 hy6 (by simp)) (hq_tne hy15 hy9 (by simp)) (by omega) (hq_tne hy15 hy14 (by simp))).trans ((fr244 (kb + 53) (hq_tne hy15 hy2 (by simp)) (hq_ne kb 53 55 (by decide)) (hq_tne hy15 hy4 (by simp))).trans (ho206))
                have fx380 : V324 (kb + 54) = some (.inl (cs 0, 30, .inl (u155))) := (fr329 (kb + 54) (hq_tne hy16 hy0 (by simp)) (hq_tne hy16 hy1 (by simp)) (hq_tne hy16 hy2 (by simp)) (hq_tne hy16 hy5 (by simp)) (hq_ne kb 54 58 (by decide)) (hq_tne hy16 hy9 (by simp)) (hq_tne hy16 hy13 (by simp)) (by omega)).trans ((fr244 (kb + 54) (hq_tne hy16 hy2 (by simp)) (hq_tne hy16 hy3 (by simp)) (hq_ne kb 54 56 (by decide))).trans (ho207))
                have fx381 : V324 (kb + 59) = some (.inl (cs 1, 2, .inl (kk))) := (fr329 (kb + 59) (hq_tne hy17 hy0 (by simp)) (hq_tne hy17 hy1 (by simp)) (hq_tne hy17 hy2 (by simp)) (hq_tne hy17 hy5 (by simp)) (hq_tne hy17 hy6 (by simp)) (hq_tne hy17 hy9 (by simp)) (hq_tne hy17 hy13 (by simp)) (hq_tne hy17 hy14 (by simp))).trans ((fr244 (kb + 59) (hq_tne hy17 hy2 (by simp)) (hq_tne hy17 hy3 (by simp)) (hq_tne hy17 hy4 (by simp))).trans (ho209))
                have fx382 : V324 (kb + 60) = some (.inl (cs 1, 2, .inl (mm))) := (fr329 (kb + 60) (hq_tne hy18 hy0 (by simp)) (hq_tne hy18 hy1 (by simp)) (hq_tne hy18 hy2 (by simp)) (hq_tne hy18 hy5 (by simp)) (hq_tne hy18 hy6 (by simp)) (hq_tne hy18 hy9 (by simp)) (hq_tne hy18 hy13 (by simp)) (hq_tne hy18 hy14 (by simp))).trans ((fr244 (kb + 60) (hq_tne hy18 hy2 (by simp)) (hq_tne hy18 hy3 (by simp)) (hq_tne hy18 hy4 (by simp))).trans (ho211))
                have fx383 : V324 (kb + 61) = some (.inl (cs 1, 2, .inl (tt_))) := (fr329 (kb + 61) (hq_tne hy19 hy0 (by simp)) (hq_tne hy19 hy1 (by simp)) (hq_tne hy19 hy2 (by simp)) (hq_tne hy19 hy5 (by simp)) (hq_tne hy19 hy6 (by simp)) (hq_tne hy19 hy9 (by simp)) (hq_tne hy19 hy13 (by simp)) (hq_tne hy19 hy14 (by simp))).trans ((fr244 (kb + 61) (hq_tne hy19 hy2 (by simp)) (hq_tne hy19 hy3 (by simp)) (hq_tne hy19 hy4 (by simp))).trans (ho213))
                have pk384 := pk322.keep (fun x7 (hx7 : qt + 77 ≤ x7 ∧ x7 < qt + 77 + 5 * bk.2.2.2.length) => fr329 x7 (hq_nk hne hx7.1 (by decide)) (hq_nk hne hx7.1 (by decide)) (hq_nk hne hx7.1 (by decide)) (hq_nk hne hx7.1 (by decide)) (hq_nk hne hx7.1 (by decide)) (hq_nk hne hx7.1 (by decide)) (hq_nc hne hx7.1 hsh.2.2.2) (hq_nc1 hne hx7.1 hsh.2.2.2))
                have pk385 := pk217.keep (fun x7 (hx7 : qt + 15 ≤ x7 ∧ x7 < qt + 15 + 2 * bk.2.1.length) => (fr329 x7 (hq_nk hne hx7.1 (by decide)) (hq_nk hne hx7.1 (by decide)) (hq_nk hne hx7.1 (by decide)) (hq_nk hne hx7.1 (by decide)) (hq_nk hne hx7.1 (by decide)) (hq_nk hne hx7.1 (by decide)) (hq_nc hne hx7.1 hsh.2.2.2) (hq_nc1 hne hx7.1 hsh.2.2.2)).trans (fr244 x7 (hq_nk hne hx7.1 (by decide)) (hq_nk hne hx7.1 (by decide)) (hq_nk hne hx7.1 (by decide))))
                have pk386 := pk323.keep (fr329 (qt + 1) (hq_nkj hne (by decide)) (hq_nkj hne (by decide)) (hq_nkj hne (by decide)) (hq_nkj hne (by decide)) (hq_nkj hne (by decide)) (hq_nkj hne (by decide)) (hq_ncj hne hsh.2.2.2) (hq_nc1j hne hsh.2.2.2)) (fr329 (qt + 14) (hq_nkj hne (by decide)) (hq_nkj hne (by decide)) (hq_nkj hne (by decide)) (hq_nkj hne (by decide)) (hq_nkj hne (by decide)) (hq_nkj hne (by decide)) (hq_ncj hne hsh.2.2.2) (hq_nc1j hne hsh.2.2.2)) (fr329 (qt + 76) (hq_nkj hne (by decide)) (hq_nkj hne (by decide)) (hq_nkj hne (by decide)) (hq_nkj hne (by decide)) (hq_nkj hne (by decide)) (hq_nkj hne (by decide)) (hq_ncj hne hsh.2.2.2) (hq_nc1j hne hsh.2.2.2))
                exact ih117 _ (by omega) _ _ _ ls (y371) ((sp_tr (sp_M w bk.2.2.2 (sp_U w bk (sp_nm w t9)) ask) Y8 (sp_cy bk.2.2.2 w (sp_U w bk (sp_nm w t9)) (sp_wc (r19).toInt s9.toInt e9.toInt (-1) (-1)) (sp_wk (r19).toInt s9.toInt e9.toInt (-1) (-1)) (sp_ys (r38).toInt s9.toInt) (sp_ye (r56).toInt e9.toInt)))) (z330) (z331) (z332) (z333) (z334) (z335) (z336) (z337) (z245) (z343) (z344) (z338) (z248) (u249) (z339) (u340) (z341) (u342) rfl hZ hP ho345 ho346 ho352 ho347 fx377 fx378 ho348 ho349 ho350 ho351 fx379 fx380 fx381 fx382 fx383 (fun x8 hne0 hne1 hne2 hne3 hne4 hne5 hne6 hne7 hne8 hne9 hne10 hne11 hne12 hne13 hne14 => (fr329 x8 hne0 hne1 hne2 hne8 hne9 hne7 hne10 hne11).trans ((fr244 x8 hne2 hne5 hne6).trans (fr117 x8 hne0 hne1 hne2 hne3 hne4 hne5 hne6 hne7 hne8 hne9 hne10 hne11 hne12 hne13 hne14))) pk384 pk385 pk386 (by omega) (by omega) (by omega) (hbwn) (by rw [show (y371).toInt = e9.toInt + 1 by omega]; exact sp_fz_in (by omega) hte (congrArg (sp_tr _ Y8) (sp_be_do hev hek (by omega) hby.1)).symm) (lv_sub hl [0, 1, 2, 3, 4, 5, 6, 7, 8] rfl)

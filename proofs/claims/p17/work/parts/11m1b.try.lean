set_option maxHeartbeats 4000000 in
set_option maxRecDepth 100000 in
theorem x_tryWord (l : Launch) (D : va_G) (cs : Nat → ClassId) (B : Nat) (G : hq_G) (V : hp_V) (n : Nat) (hI : hq_I cs G V) (kb : Nat) (qt : Nat) (md : Nat) (mh : Nat) (pt : Nat) (ch : Nat) (bb : Nat) (t9 : Nat) (w : sp_W) (bk : sp_B) (Y : sp_Y) (ask : List Int) (e_fd : Int32) (e_sz : Int32) (mw : Int32) (bc : Int32) (bv : Int32) (bl : Int32) (bz0 : Int32) (bz1 : Int32) (bz2 : Int32) (bz3 : Int32) (bz4 : Int32) (bz5 : Int32) (bz6 : Int32) (tz0 : Int32) (tz1 : Int32) (tz2 : Int32) (tz3 : Int32) (tz4 : Int32) (tz5 : Int32) (tz6 : Int32) (ez : Int32) (ef : Nat → Int32) (wz_ : Int32) (wf_ : Nat → Int32) (pz : Int32) (pf : Nat → Int32) (cz : Int32) (cf : Nat → Int32) (hy0 : G (kb + 50) = some (14, 0, 0, 0)) (hy1 : G (kb + 51) = some (13, 0, 0, 0)) (hy2 : G (kb + 52) = some (13, 0, 0, 0)) (hy3 : G (kb + 55) = some (0, 30, 0, 0)) (hy4 : G (kb + 56) = some (1, 30, 0, 0)) (hy5 : G (kb + 57) = some (0, 30, 0, 0)) (hy6 : G (kb + 58) = some (1, 30, 0, 0)) (hy7 : G (kb) = some (0, 4000, 0, 0)) (hy8 : G (kb + 1) = some (1, 4000, 0, 0)) (hy9 : G (kb + 5) = some (11, 0, 0, 0)) (hy10 : G (md) = some (8, 4, 0, 0)) (hy11 : G (mh) = some (8, 2, 0, 0)) (hy12 : G (pt) = some (8, 2, 0, 0)) (hy13 : G (ch) = some (0, 30, 0, 0)) (hy14 : G (ch + 1) = some (1, 30, 0, 0)) (hc0 : V (kb + 50) = some (.inr (1, [.ref (kb + 51), .ref (kb + 52), .int (e_fd), .ref (kb + 53), .ref (kb + 55), .ref (kb + 57), .ref (qt), .ref (kb), .ref (kb + 5), .int (e_sz), .ref (kb + 59), .ref (kb + 60), .ref (kb + 61)]))) (hc1 : V (kb + 51) = some (.inr (10, [.int (bz0), .int (bz1), .int (bz2), .int (bz3), .int (bz4), .int (bz5), .int (bz6)]))) (hc2 : V (kb + 52) = some (.inr (10, [.int (tz0), .int (tz1), .int (tz2), .int (tz3), .int (tz4), .int (tz5), .int (tz6)]))) (hc3 : V (kb + 55) = some (.inr (9, [.ref (kb + 55 + 1), .int (ez)]))) (hc4 : V (kb + 56) = some (.inl (cs 0, 30, .inl (ef)))) (hc5 : V (kb + 57) = some (.inr (9, [.ref (kb + 57 + 1), .int (wz_)]))) (hc6 : V (kb + 58) = some (.inl (cs 0, 30, .inl (wf_)))) (hc7 : V (kb) = some (.inr (9, [.ref (kb + 1), .int (pz)]))) (hc8 : V (kb + 1) = some (.inl (cs 0, 4000, .inl (pf)))) (hc9 : V (kb + 5) = some (.inr (6, [.ref (md), .int (mw), .ref (mh), .ref (pt), .ref (ch)]))) (hc10 : V (ch) = some (.inr (9, [.ref (ch + 1), .int (cz)]))) (hc11 : V (ch + 1) = some (.inl (cs 0, 30, .inl (cf)))) (hc12 : V (qt) = some (.inr (0, [.ref (qt + 1), .int (bc), .ref (qt + 14), .ref (qt + 75), .int (bv), .ref (qt + 76), .int (bl)]))) (hp0 : hx_LL cs V (qt + 77) w bk.2.2.2) (hp1 : hx_BS cs V qt) (hbl : bl.toInt = (bk.2.2.2.length : Int)) (hgd : sp_good w bk) (hgd2 : sp_good2 bk) (hBT : hx_BT G qt bb) (hask : sp_rp pz pf ask) (hend : sp_rp ez ef (sp_U w bk (sp_nm w t9) (sp_ys tz1.toInt tz3.toInt) (sp_ye tz2.toInt tz4.toInt))) (hlen : (sp_U w bk (sp_nm w t9) (sp_ys tz1.toInt tz3.toInt) (sp_ye tz2.toInt tz4.toInt)).length ≤ 30 ∧ (0 ≤ wz_.toInt ∧ wz_.toInt ≤ 30) ∧ (0 ≤ cz.toInt ∧ cz.toInt ≤ 30) ∧ pz.toInt ≤ 4000) (hne : kb + 61 < qt) (hsh : md = kb + 6 ∧ mh = kb + 24 ∧ pt = kb + 34 ∧ ch = kb + 44) (hbw : hx_BW bk.2.2.2.length e_fd.toInt tz0.toInt tz1.toInt tz2.toInt bz0.toInt bz1.toInt bz2.toInt bz3.toInt bz4.toInt bz5.toInt bz6.toInt Y) (hvs : sp_vs bk.2.2.2.length tz1.toInt tz3.toInt) (hve : sp_ve bk.2.2.2.length tz2.toInt tz4.toInt) (hes : (0 ≤ e_sz.toInt ∧ e_sz.toInt ≤ 2) ∧ (0 ≤ e_fd.toInt ∧ e_fd.toInt ≤ 1)) (howx : (-1 ≤ tz1.toInt ∧ tz1.toInt < (bk.2.2.2.length : Int)) ∧ (-1 ≤ tz2.toInt ∧ tz2.toInt < (bk.2.2.2.length : Int))) (hn5 : (-1 ≤ tz5.toInt ∧ tz5.toInt < 60) ∧ (-1 ≤ tz6.toInt ∧ tz6.toInt < 60)) : hp_M l yX1_tryWord cX1_tryWord 3 (some .long) ({ frames := 5, cells := 0, slots := 0, locals := 121 }) D cs B V n [.ref (kb + 50)] (hp_QL D cs B (fun r V' n' => n = n' ∧ hq_P cs G (fun _ => true) V V' ∧ (∀ x, x ≠ kb + 50 → x ≠ kb + 51 → x ≠ kb + 57 → x ≠ kb + 58 → x ≠ kb + 5 → x ≠ ch → x ≠ ch + 1 → V' x = V x) ∧ (∃ e_fd1 : Int32, ∃ bw0 : Int32, ∃ bw1 : Int32, ∃ bw2 : Int32, ∃ bw3 : Int32, ∃ bw4 : Int32, ∃ bw5 : Int32, ∃ bw6 : Int32, ∃ mw1 : Int32, ∃ wz1 : Int32, ∃ wf1 : Nat → Int32, ∃ cz1 : Int32, ∃ cf1 : Nat → Int32, V' (kb + 50) = some (.inr (1, [.ref (kb + 51), .ref (kb + 52), .int (e_fd1), .ref (kb + 53), .ref (kb + 55), .ref (kb + 57), .ref (qt), .ref (kb), .ref (kb + 5), .int (e_sz), .ref (kb + 59), .ref (kb + 60), .ref (kb + 61)])) ∧ V' (kb + 51) = some (.inr (10, [.int (bw0), .int (bw1), .int (bw2), .int (bw3), .int (bw4), .int (bw5), .int (bw6)])) ∧ V' (kb + 5) = some (.inr (6, [.ref (md), .int (mw1), .ref (mh), .ref (pt), .ref (ch)])) ∧ V' (kb + 57) = some (.inr (9, [.ref (kb + 57 + 1), .int (wz1)])) ∧ V' (kb + 58) = some (.inl (cs 0, 30, .inl (wf1))) ∧ V' (ch) = some (.inr (9, [.ref (ch + 1), .int (cz1)])) ∧ V' (ch + 1) = some (.inl (cs 0, 30, .inl (cf1))) ∧ (hx_BW bk.2.2.2.length e_fd1.toInt tz0.toInt tz1.toInt tz2.toInt bw0.toInt bw1.toInt bw2.toInt bw3.toInt bw4.toInt bw5.toInt bw6.toInt (sp_t1 (sp_M w bk.2.2.2 (sp_U w bk (sp_nm w t9)) ask) Y (sp_yw tz0.toInt tz1.toInt tz2.toInt tz3.toInt tz4.toInt tz5.toInt tz6.toInt))) ∧ (∀ cc : Nat, (sp_bt r cc ↔ sp_hd w tz5.toInt tz6.toInt bk.2.2.2 (sp_U w bk (sp_nm w t9) (sp_ys tz1.toInt tz3.toInt) (sp_ye tz2.toInt tz4.toInt)) cc)) ∧ ((0 ≤ wz1.toInt ∧ wz1.toInt ≤ 30) ∧ (0 ≤ cz1.toInt ∧ cz1.toInt ≤ 30))))) 0 0 := by
  refine hp_walk (R0 := RX1) (by decide) rfl ?_ (Nat.le_of_ble_eq_true rfl)
  intro p e s m below meth c ls hx hb hr hts hown hlocks hin hml hZ hl
  have hP : hq_P cs G (fun _ => true) V V := hq_P.rf hI
  have hl : lv_has ls 3 [(0, .ref (kb + 50))] := hl
  have hb_e_fd := hq_rng e_fd
  have hb_e_sz := hq_rng e_sz
  have hb_mw := hq_rng mw
  have hb_bc := hq_rng bc
  have hb_bv := hq_rng bv
  have hb_bl := hq_rng bl
  have hb_bz0 := hq_rng bz0
  have hb_bz1 := hq_rng bz1
  have hb_bz2 := hq_rng bz2
  have hb_bz3 := hq_rng bz3
  have hb_bz4 := hq_rng bz4
  have hb_bz5 := hq_rng bz5
  have hb_bz6 := hq_rng bz6
  have hb_tz0 := hq_rng tz0
  have hb_tz1 := hq_rng tz1
  have hb_tz2 := hq_rng tz2
  have hb_tz3 := hq_rng tz3
  have hb_tz4 := hq_rng tz4
  have hb_tz5 := hq_rng tz5
  have hb_tz6 := hq_rng tz6
  have hb_ez := hq_rng ez
  have hb_wz_ := hq_rng wz_
  have hb_pz := hq_rng pz
  have hb_cz := hq_rng cz
  have hf_4 := hq_rgB hI hy4 hc4
  have hf_6 := hq_rgB hI hy6 hc6
  have hf_8 := hq_rgB hI hy8 hc8
  have hf_11 := hq_rgB hI hy14 hc11
  have hll9 := hp0.1
  have ha1 := hask.1
  have he1 := hend.1
  obtain ⟨hq1, hq2, hq3, hq4⟩ := hlen
  obtain ⟨ho1, ho2⟩ := howx
  refine lv_aload_n hx hb dX1_tryWord_0 rfl (lv_at hl 0 rfl) ?_
  refine hp_get (v := .ref (kb + 57)) hx hb hts hown hZ hc0 fl_X1_33 rfl dX1_tryWord_1 ?_
  refine lv_aload_n hx hb dX1_tryWord_4 rfl (lv_at hl 0 rfl) ?_
  refine hp_get (v := .ref (kb + 55)) hx hb hts hown hZ hc0 fl_X1_30 rfl dX1_tryWord_5 ?_
  refine hp_callv (hp_runV (As := [.ref (kb + 55)]) (rest := []) hx hb hml hown hts (x_set l D cs B G V n hP.1 (kb + 57) (30) (kb + 55) (30) (wz_) (wf_) (ez) (ef) hy5 hy6 hy4 hc5 hc6 hc3 hc4  (by omega) (by decide) (by decide) (by omega) (by omega)) hZ hc5 cv_X1_120 rfl rfl ⟨Nat.le_of_ble_eq_true rfl, Nat.le_of_ble_eq_true rfl⟩ rfl hl.1 rfl (Nat.le_of_ble_eq_true rfl) dX1_tryWord_8 ⟨(Nat.le_of_ble_eq_true rfl), (Nat.le_of_ble_eq_true rfl)⟩) hZ (fun V1 n2 _ _ hw3 hZ => ?_)
  obtain ⟨rfl, hq5, fr6, z7, u8, ho9, ho10, hp11, hp12⟩ := hw3
  have b13 := hq_rng z7
  have hP := hP.trans hq5 (fun _ h => Bool.noConfusion h)
  have hf14 := hq_rgB hP.1 hy6 ho10
  have hwd : sp_rp z7 u8 (sp_U w bk (sp_nm w t9) (sp_ys tz1.toInt tz3.toInt) (sp_ye tz2.toInt tz4.toInt)) := ⟨by omega, fun k9 x9 hx9 => by have h9 := (List.getElem?_eq_some_iff.mp hx9).1; rw [hp12 k9 (by omega)]; exact hend.2 k9 x9 hx9⟩
  refine lv_aload_n hx hb dX1_tryWord_11 rfl (lv_at hl 0 rfl) ?_
  have fx15 : V1 (kb + 50) = some (.inr (1, [.ref (kb + 51), .ref (kb + 52), .int (e_fd), .ref (kb + 53), .ref (kb + 55), .ref (kb + 57), .ref (qt), .ref (kb), .ref (kb + 5), .int (e_sz), .ref (kb + 59), .ref (kb + 60), .ref (kb + 61)])) := (fr6 (kb + 50) (hq_tne hy0 hy5 (by simp)) (hq_tne hy0 hy6 (by simp))).trans (hc0)
  refine hp_get (v := .ref (kb + 5)) hx hb hts hown hZ fx15 fl_X1_57 rfl dX1_tryWord_12 ?_
  refine lv_aload_n hx hb dX1_tryWord_15 rfl (lv_at hl 0 rfl) ?_
  refine hp_get (v := .ref (qt)) hx hb hts hown hZ fx15 fl_X1_50 rfl dX1_tryWord_16 ?_
  refine lv_aload_n hx hb dX1_tryWord_19 rfl (lv_at hl 0 rfl) ?_
  refine hp_get (v := .ref (kb + 57)) hx hb hts hown hZ fx15 fl_X1_33 rfl dX1_tryWord_20 ?_
  refine lv_aload_n hx hb dX1_tryWord_23 rfl (lv_at hl 0 rfl) ?_
  refine hp_get (v := .ref (kb + 52)) hx hb hts hown hZ fx15 fl_X1_18 rfl dX1_tryWord_24 ?_
  have fx16 : V1 (kb + 52) = some (.inr (10, [.int (tz0), .int (tz1), .int (tz2), .int (tz3), .int (tz4), .int (tz5), .int (tz6)])) := (fr6 (kb + 52) (hq_tne hy2 hy5 (by simp)) (hq_tne hy2 hy6 (by simp))).trans (hc2)
  refine hp_get (v := .int (tz5)) hx hb hts hown hZ fx16 fl_X1_114 rfl dX1_tryWord_27 ?_
  refine lv_aload_n hx hb dX1_tryWord_30 rfl (lv_at hl 0 rfl) ?_
  refine hp_get (v := .ref (kb + 52)) hx hb hts hown hZ fx15 fl_X1_18 rfl dX1_tryWord_31 ?_
  refine hp_get (v := .int (tz6)) hx hb hts hown hZ fx16 fl_X1_117 rfl dX1_tryWord_34 ?_
  have fx17 : V1 (kb + 5) = some (.inr (6, [.ref (md), .int (mw), .ref (mh), .ref (pt), .ref (ch)])) := (fr6 (kb + 5) (hq_tne hy9 hy5 (by simp)) (hq_tne hy9 hy6 (by simp))).trans (hc9)
  have fx18 : V1 (qt) = some (.inr (0, [.ref (qt + 1), .int (bc), .ref (qt + 14), .ref (qt + 75), .int (bv), .ref (qt + 76), .int (bl)])) := (fr6 (qt) (by omega) (by omega)).trans (hc12)
  have fx19 : V1 (ch) = some (.inr (9, [.ref (ch + 1), .int (cz)])) := (fr6 (ch) (by omega) (hq_tne hy13 hy6 (by simp))).trans (hc10)
  have fx20 : V1 (ch + 1) = some (.inl (cs 0, 30, .inl (cf))) := (fr6 (ch + 1) (hq_tne hy14 hy5 (by simp)) (by omega)).trans (hc11)
  have pk21 := hp0.keep (fun x7 (hx7 : qt + 77 ≤ x7 ∧ x7 < qt + 77 + 5 * bk.2.2.2.length) => fr6 x7 (by omega) (by omega))
  have pk22 := hp1.keep (fr6 (qt + 1) (by omega) (by omega)) (fr6 (qt + 14) (by omega) (by omega)) (fr6 (qt + 76) (by omega) (by omega))
  refine hp_calll (hp_runV (As := [.ref (qt), .ref (kb + 57), .int (tz5), .int (tz6)]) (rest := []) hx hb hml hown hts (x_sall l D cs B G V1 n hP.1 (kb + 5) (md) (mh) (pt) (ch) (qt) (kb + 57) (bb) (w) (bk) (mw) (tz5) (tz6) (bc) (bv) (bl) (z7) (u8) (cz) (cf) ((sp_U w bk (sp_nm w t9) (sp_ys tz1.toInt tz3.toInt) (sp_ye tz2.toInt tz4.toInt))) hy9 hy10 hy11 hy12 hy13 hy14 hy5 hy6 fx17 fx18 ho9 ho10 fx19 fx20 pk21 pk22 hbl hgd hgd2 hBT hwd (by omega) (by omega) hsh) hZ fx17 cv_X1_148 rfl rfl ⟨Nat.le_of_ble_eq_true rfl, Nat.le_of_ble_eq_true rfl⟩ rfl hl.1 rfl (Nat.le_of_ble_eq_true rfl) dX1_tryWord_37 ⟨(Nat.le_of_ble_eq_true rfl), (Nat.le_of_ble_eq_true rfl)⟩) hZ (fun r26 V23 n24 _ _ hw25 hZ => ?_)
  obtain ⟨rfl, hq27, fr28, z29, z30, u31, z32, u33, ho34, ho35, ho36, ho37, ho38, hp39, hp40, hp41⟩ := hw25
  have b42 := hq_rng z29
  have b43 := hq_rng z30
  have b44 := hq_rng z32
  have hP := hP.trans hq27 (fun _ h => Bool.noConfusion h)
  have hf45 := hq_rgB hP.1 hy6 ho36
  have hf46 := hq_rgB hP.1 hy14 ho38
  have hsl := hp39
  have hbt := hp40
  have b47 := hp41
  refine lv_lstore_n (lv' := [(1, .long (r26)), (0, .ref (kb + 50))]) hx hb dX1_tryWord_40 rfl hl (by decide) rfl (fun ls hl => ?_)
  refine lv_aload_n hx hb dX1_tryWord_41 rfl (lv_at hl 1 rfl) ?_
  have fx48 : V23 (kb + 50) = some (.inr (1, [.ref (kb + 51), .ref (kb + 52), .int (e_fd), .ref (kb + 53), .ref (kb + 55), .ref (kb + 57), .ref (qt), .ref (kb), .ref (kb + 5), .int (e_sz), .ref (kb + 59), .ref (kb + 60), .ref (kb + 61)])) := (fr28 (kb + 50) (hq_tne hy0 hy9 (by simp)) (hq_tne hy0 hy13 (by simp)) (hq_tne hy0 hy14 (by simp)) (hq_tne hy0 hy5 (by simp)) (hq_tne hy0 hy6 (by simp))).trans (fx15)
  refine hp_get (v := .ref (kb + 5)) hx hb hts hown hZ fx48 fl_X1_57 rfl dX1_tryWord_42 ?_
  refine hp_get (v := .int (z29)) hx hb hts hown hZ ho34 fl_X1_154 rfl dX1_tryWord_45 ?_
  refine lv_if_eq (tgt := 88) hx hb dX1_tryWord_48 (by decide) (fun c49 => ?_) (fun c49 => ?_)
  · have c49 : (z29).toInt = (0 : Int) := hq_eqi.mp c49
    have hmk0 : ∀ u1, sp_sa w tz5.toInt tz6.toInt bk.2.2.2 0 (sp_U w bk (sp_nm w t9) (sp_ys tz1.toInt tz3.toInt) (sp_ye tz2.toInt tz4.toInt)) = some u1 → u1.length = 0 := by rcases hsl with g9 | g9; (· omega); (· exact g9.2)
    refine lv_lload_n hx hb dX1_tryWord_88 rfl (lv_at hl 0 rfl) ?_
    have fx50 : V23 (kb + 51) = some (.inr (10, [.int (bz0), .int (bz1), .int (bz2), .int (bz3), .int (bz4), .int (bz5), .int (bz6)])) := (fr28 (kb + 51) (hq_tne hy1 hy9 (by simp)) (hq_tne hy1 hy13 (by simp)) (hq_tne hy1 hy14 (by simp)) (hq_tne hy1 hy5 (by simp)) (hq_tne hy1 hy6 (by simp))).trans ((fr6 (kb + 51) (hq_tne hy1 hy5 (by simp)) (hq_tne hy1 hy6 (by simp))).trans (hc1))
    exact hp_lret hx hb hr hlocks hZ ⟨rfl, hP, (fun x8 hne0 hne1 hne2 hne3 hne4 hne5 hne6 => (fr28 x8 hne4 hne5 hne6 hne2 hne3).trans (fr6 x8 hne2 hne3)), e_fd, bz0, bz1, bz2, bz3, bz4, bz5, bz6, z29, z30, u31, z32, u33, fx48, fx50, ho34, ho35, ho36, ho37, ho38, (by rw [show sp_t1 (sp_M w bk.2.2.2 (sp_U w bk (sp_nm w t9)) ask) Y (sp_yw tz0.toInt tz1.toInt tz2.toInt tz3.toInt tz4.toInt tz5.toInt tz6.toInt) = Y from sp_t1_n (fun g9 => by have h9 := hmk0 _ g9.1.2.1; have h8 := g9.1.2.2; omega)]; exact hbw), hbt, by omega⟩ dX1_tryWord_89
  · have c49 : ¬ (z29).toInt = (0 : Int) := fun h9 => c49 (hq_eqi.mpr h9)
    obtain ⟨u1, hsa, hpos, hrp⟩ : ∃ u1, sp_sa w tz5.toInt tz6.toInt bk.2.2.2 0 (sp_U w bk (sp_nm w t9) (sp_ys tz1.toInt tz3.toInt) (sp_ye tz2.toInt tz4.toInt)) = some u1 ∧ 0 < u1.length ∧ sp_rp z30 u31 u1 := by rcases hsl with g9 | g9; (· exact g9.2); (· omega)
    have hrp1 := hrp.1
    refine lv_aload_n hx hb dX1_tryWord_51 rfl (lv_at hl 1 rfl) ?_
    refine hp_get (v := .ref (kb + 57)) hx hb hts hown hZ fx48 fl_X1_33 rfl dX1_tryWord_52 ?_
    refine lv_aload_n hx hb dX1_tryWord_55 rfl (lv_at hl 1 rfl) ?_
    refine hp_get (v := .ref (kb)) hx hb hts hown hZ fx48 fl_X1_54 rfl dX1_tryWord_56 ?_
    have fx51 : V23 (kb) = some (.inr (9, [.ref (kb + 1), .int (pz)])) := (fr28 (kb) (hq_tne hy7 hy9 (by simp)) (hq_tne hy7 hy13 (by simp)) (hq_tne hy7 hy14 (by simp)) (hq_tne hy7 hy5 (by simp)) (hq_tne hy7 hy6 (by simp))).trans ((fr6 (kb) (hq_tne hy7 hy5 (by simp)) (hq_tne hy7 hy6 (by simp))).trans (hc7))
    have fx52 : V23 (kb + 1) = some (.inl (cs 0, 4000, .inl (pf))) := (fr28 (kb + 1) (hq_tne hy8 hy9 (by simp)) (hq_tne hy8 hy13 (by simp)) (hq_tne hy8 hy14 (by simp)) (hq_tne hy8 hy5 (by simp)) (hq_tne hy8 hy6 (by simp))).trans ((fr6 (kb + 1) (hq_tne hy8 hy5 (by simp)) (hq_tne hy8 hy6 (by simp))).trans (hc8))
    refine hp_calli (hp_runV (As := [.ref (kb)]) (rest := []) hx hb hml hown hts (x_same l D cs B G V23 n hP.1 (kb + 57) (30) (kb) (4000) (z30) (u31) (pz) (pf)  ho35 ho36 fx51 fx52  (by omega) (by omega) (by decide) (by decide)) hZ ho35 cv_X1_157 rfl rfl ⟨Nat.le_of_ble_eq_true rfl, Nat.le_of_ble_eq_true rfl⟩ rfl hl.1 rfl (Nat.le_of_ble_eq_true rfl) dX1_tryWord_59 ⟨(Nat.le_of_ble_eq_true rfl), (Nat.le_of_ble_eq_true rfl)⟩) hZ (fun r56 V53 n54 _ _ hw55 hZ => ?_)
    obtain ⟨rfl, rfl, hp59⟩ := hw55
    have b60 := hq_rng r56
    refine lv_if_eq (tgt := 88) hx hb dX1_tryWord_62 (by decide) (fun c61 => ?_) (fun c61 => ?_)
    · have c61 : (r56).toInt = (0 : Int) := hq_eqi.mp c61
      have hna : ¬ u1 = ask := fun g9 => (hx_D.neg hp59 (by omega)).2 ((hrp.same hask).mpr g9)
      refine lv_lload_n hx hb dX1_tryWord_88 rfl (lv_at hl 0 rfl) ?_
      have fx62 : V23 (kb + 51) = some (.inr (10, [.int (bz0), .int (bz1), .int (bz2), .int (bz3), .int (bz4), .int (bz5), .int (bz6)])) := (fr28 (kb + 51) (hq_tne hy1 hy9 (by simp)) (hq_tne hy1 hy13 (by simp)) (hq_tne hy1 hy14 (by simp)) (hq_tne hy1 hy5 (by simp)) (hq_tne hy1 hy6 (by simp))).trans ((fr6 (kb + 51) (hq_tne hy1 hy5 (by simp)) (hq_tne hy1 hy6 (by simp))).trans (hc1))
      exact hp_lret hx hb hr hlocks hZ ⟨rfl, hP, (fun x8 hne0 hne1 hne2 hne3 hne4 hne5 hne6 => (fr28 x8 hne4 hne5 hne6 hne2 hne3).trans (fr6 x8 hne2 hne3)), e_fd, bz0, bz1, bz2, bz3, bz4, bz5, bz6, z29, z30, u31, z32, u33, fx48, fx62, ho34, ho35, ho36, ho37, ho38, (by rw [show sp_t1 (sp_M w bk.2.2.2 (sp_U w bk (sp_nm w t9)) ask) Y (sp_yw tz0.toInt tz1.toInt tz2.toInt tz3.toInt tz4.toInt tz5.toInt tz6.toInt) = Y from sp_t1_n (fun g9 => hna (Option.some.inj (hsa.symm.trans g9.1.2.1)))]; exact hbw), hbt, by omega⟩ dX1_tryWord_89
    · have c61 : ¬ (r56).toInt = (0 : Int) := fun h9 => c61 (hq_eqi.mpr h9)
      have hua : u1 = ask := (hrp.same hask).mp (hx_D.pos hp59 (by rcases Classical.em ((r56).toInt = 1) with h9 | h9; exact h9; exact absurd (hx_D.neg hp59 h9).1 (by omega)))
      rw [hua] at hsa hpos
      refine lv_aload_n hx hb dX1_tryWord_65 rfl (lv_at hl 1 rfl) ?_
      have fx63 : V23 (kb + 51) = some (.inr (10, [.int (bz0), .int (bz1), .int (bz2), .int (bz3), .int (bz4), .int (bz5), .int (bz6)])) := (fr28 (kb + 51) (hq_tne hy1 hy9 (by simp)) (hq_tne hy1 hy13 (by simp)) (hq_tne hy1 hy14 (by simp)) (hq_tne hy1 hy5 (by simp)) (hq_tne hy1 hy6 (by simp))).trans ((fr6 (kb + 51) (hq_tne hy1 hy5 (by simp)) (hq_tne hy1 hy6 (by simp))).trans (hc1))
      have fx64 : V23 (kb + 52) = some (.inr (10, [.int (tz0), .int (tz1), .int (tz2), .int (tz3), .int (tz4), .int (tz5), .int (tz6)])) := (fr28 (kb + 52) (hq_tne hy2 hy9 (by simp)) (hq_tne hy2 hy13 (by simp)) (hq_tne hy2 hy14 (by simp)) (hq_tne hy2 hy5 (by simp)) (hq_tne hy2 hy6 (by simp))).trans (fx16)
      refine hp_calli (hp_runV (As := []) (rest := []) hx hb hml hown hts (x_better l D cs B G V23 n hP.1 (kb) (qt) (w) (bk) (Y) (e_fd) (e_sz) (bz0) (bz1) (bz2) (bz3) (bz4) (bz5) (bz6) (tz0) (tz1) (tz2) (tz3) (tz4) (tz5) (tz6)  fx48 fx63 fx64  hbw) hZ fx48 cv_X1_91 rfl rfl ⟨Nat.le_of_ble_eq_true rfl, Nat.le_of_ble_eq_true rfl⟩ rfl hl.1 rfl (Nat.le_of_ble_eq_true rfl) dX1_tryWord_66 ⟨(Nat.le_of_ble_eq_true rfl), (Nat.le_of_ble_eq_true rfl)⟩) hZ (fun r68 V65 n66 _ _ hw67 hZ => ?_)
      obtain ⟨rfl, rfl, hp71⟩ := hw67
      have b72 := hq_rng r68
      refine lv_if_eq (tgt := 88) hx hb dX1_tryWord_69 (by decide) (fun c73 => ?_) (fun c73 => ?_)
      · have c73 : (r68).toInt = (0 : Int) := hq_eqi.mp c73
        have hnb : ¬ ((sp_wk tz0.toInt tz3.toInt tz4.toInt tz5.toInt tz6.toInt) ≤ 2 ∧ ((sp_wc tz0.toInt tz3.toInt tz4.toInt tz5.toInt tz6.toInt) < Y.1 ∨ ((sp_wc tz0.toInt tz3.toInt tz4.toInt tz5.toInt tz6.toInt) = Y.1 ∧ (sp_wk tz0.toInt tz3.toInt tz4.toInt tz5.toInt tz6.toInt) < Y.2.1))) := by rcases hp71 with g9 | g9; (· omega); (· exact g9.2)
        refine lv_lload_n hx hb dX1_tryWord_88 rfl (lv_at hl 0 rfl) ?_
        exact hp_lret hx hb hr hlocks hZ ⟨rfl, hP, (fun x8 hne0 hne1 hne2 hne3 hne4 hne5 hne6 => (fr28 x8 hne4 hne5 hne6 hne2 hne3).trans (fr6 x8 hne2 hne3)), e_fd, bz0, bz1, bz2, bz3, bz4, bz5, bz6, z29, z30, u31, z32, u33, fx48, fx63, ho34, ho35, ho36, ho37, ho38, (by rw [show sp_t1 (sp_M w bk.2.2.2 (sp_U w bk (sp_nm w t9)) ask) Y (sp_yw tz0.toInt tz1.toInt tz2.toInt tz3.toInt tz4.toInt tz5.toInt tz6.toInt) = Y from sp_t1_n (fun g9 => hnb ⟨g9.1.1, g9.2⟩)]; exact hbw), hbt, by omega⟩ dX1_tryWord_89
      · have c73 : ¬ (r68).toInt = (0 : Int) := fun h9 => c73 (hq_eqi.mpr h9)
        have hyb : ((sp_wk tz0.toInt tz3.toInt tz4.toInt tz5.toInt tz6.toInt) ≤ 2 ∧ ((sp_wc tz0.toInt tz3.toInt tz4.toInt tz5.toInt tz6.toInt) < Y.1 ∨ ((sp_wc tz0.toInt tz3.toInt tz4.toInt tz5.toInt tz6.toInt) = Y.1 ∧ (sp_wk tz0.toInt tz3.toInt tz4.toInt tz5.toInt tz6.toInt) < Y.2.1))) := by rcases hp71 with g9 | g9; (· exact g9.2); (· omega)
        refine lv_aload_n hx hb dX1_tryWord_72 rfl (lv_at hl 1 rfl) ?_
        refine hp_get (v := .ref (kb + 51)) hx hb hts hown hZ fx48 fl_X1_12 rfl dX1_tryWord_73 ?_
        refine lv_aload_n hx hb dX1_tryWord_76 rfl (lv_at hl 1 rfl) ?_
        refine hp_get (v := .ref (kb + 52)) hx hb hts hown hZ fx48 fl_X1_18 rfl dX1_tryWord_77 ?_
        refine hp_callv (hp_runV (As := [.ref (kb + 52)]) (rest := []) hx hb hml hown hts (x_wset l D cs B G V23 n hP.1 (kb + 51) (kb + 52) (bz0) (bz1) (bz2) (bz3) (bz4) (bz5) (bz6) (tz0) (tz1) (tz2) (tz3) (tz4) (tz5) (tz6) hy1 fx63 fx64  (by omega) (by omega) (by omega)) hZ fx63 cv_X1_160 rfl rfl ⟨Nat.le_of_ble_eq_true rfl, Nat.le_of_ble_eq_true rfl⟩ rfl hl.1 rfl (Nat.le_of_ble_eq_true rfl) dX1_tryWord_80 ⟨(Nat.le_of_ble_eq_true rfl), (Nat.le_of_ble_eq_true rfl)⟩) hZ (fun V74 n75 _ _ hw76 hZ => ?_)
        obtain ⟨rfl, hq78, fr79, ho80⟩ := hw76
        have hP := hP.trans hq78 (fun _ h => Bool.noConfusion h)
        refine lv_aload_n hx hb dX1_tryWord_83 rfl (lv_at hl 1 rfl) ?_
        refine lv_iconst (v := 1) hx hb dX1_tryWord_84 (by decide) ?_
        have fx81 : V74 (kb + 50) = some (.inr (1, [.ref (kb + 51), .ref (kb + 52), .int (e_fd), .ref (kb + 53), .ref (kb + 55), .ref (kb + 57), .ref (qt), .ref (kb), .ref (kb + 5), .int (e_sz), .ref (kb + 59), .ref (kb + 60), .ref (kb + 61)])) := (fr79 (kb + 50) (hq_tne hy0 hy1 (by simp))).trans (fx48)
        refine hp_put hx hb hts hown hZ fx81 fp_X1_76 rfl rfl (Nat.le_of_ble_eq_true rfl) dX1_tryWord_85 (fun V82 _ _ e83 o84 hZ => ?_)
        have e83 : V82 (kb + 50) = some (.inr (1, [.ref (kb + 51), .ref (kb + 52), .int (1), .ref (kb + 53), .ref (kb + 55), .ref (kb + 57), .ref (qt), .ref (kb), .ref (kb + 5), .int (e_sz), .ref (kb + 59), .ref (kb + 60), .ref (kb + 61)])) := e83
        have hP := hP.put hy0 e83 o84 (trivial) rfl
        refine lv_lload_n hx hb dX1_tryWord_88 rfl (lv_at hl 0 rfl) ?_
        have fx85 : V82 (kb + 51) = some (.inr (10, [.int (tz0), .int (tz1), .int (tz2), .int (tz3), .int (tz4), .int (tz5), .int (tz6)])) := (o84 (kb + 51) (hq_tne hy1 hy0 (by simp))).trans (ho80)
        have fx86 : V82 (kb + 5) = some (.inr (6, [.ref (md), .int (z29), .ref (mh), .ref (pt), .ref (ch)])) := (o84 (kb + 5) (hq_tne hy9 hy0 (by simp))).trans ((fr79 (kb + 5) (hq_tne hy9 hy1 (by simp))).trans (ho34))
        have fx87 : V82 (kb + 57) = some (.inr (9, [.ref (kb + 58), .int (z30)])) := (o84 (kb + 57) (hq_tne hy5 hy0 (by simp))).trans ((fr79 (kb + 57) (hq_tne hy5 hy1 (by simp))).trans (ho35))
        have fx88 : V82 (kb + 58) = some (.inl (cs 0, 30, .inl (u31))) := (o84 (kb + 58) (hq_tne hy6 hy0 (by simp))).trans ((fr79 (kb + 58) (hq_tne hy6 hy1 (by simp))).trans (ho36))
        have fx89 : V82 (ch) = some (.inr (9, [.ref (ch + 1), .int (z32)])) := (o84 (ch) (hq_tne hy13 hy0 (by simp))).trans ((fr79 (ch) (hq_tne hy13 hy1 (by simp))).trans (ho37))
        have fx90 : V82 (ch + 1) = some (.inl (cs 0, 30, .inl (u33))) := (o84 (ch + 1) (hq_tne hy14 hy0 (by simp))).trans ((fr79 (ch + 1) (hq_tne hy14 hy1 (by simp))).trans (ho38))
        have hl91 : (1 : Int32).toInt = 1 := by decide
        exact hp_lret hx hb hr hlocks hZ ⟨rfl, hP, (fun x8 hne0 hne1 hne2 hne3 hne4 hne5 hne6 => (o84 x8 hne0).trans ((fr79 x8 hne1).trans ((fr28 x8 hne4 hne5 hne6 hne2 hne3).trans (fr6 x8 hne2 hne3)))), 1, tz0, tz1, tz2, tz3, tz4, tz5, tz6, z29, z30, u31, z32, u33, e83, fx85, fx86, fx87, fx88, fx89, fx90, (by rw [show sp_t1 (sp_M w bk.2.2.2 (sp_U w bk (sp_nm w t9)) ask) Y (sp_yw tz0.toInt tz1.toInt tz2.toInt tz3.toInt tz4.toInt tz5.toInt tz6.toInt) = (sp_yw tz0.toInt tz1.toInt tz2.toInt tz3.toInt tz4.toInt tz5.toInt tz6.toInt) from sp_t1_y ⟨hyb.1, hsa, hpos⟩ hyb.2]; exact Or.inr ⟨by omega, rfl, rfl, rfl, rfl, hvs, hve, by omega, by omega⟩), hbt, by omega⟩ dX1_tryWord_89

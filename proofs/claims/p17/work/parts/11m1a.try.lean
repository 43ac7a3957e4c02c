set_option maxHeartbeats 4000000 in
set_option maxRecDepth 100000 in
theorem x_better (l : Launch) (D : va_G) (cs : Nat → ClassId) (B : Nat) (G : hq_G) (V : hp_V) (n : Nat) (hI : hq_I cs G V) (kb : Nat) (qt : Nat) (w : sp_W) (bk : sp_B) (Y : sp_Y) (e_fd : Int32) (e_sz : Int32) (bz0 : Int32) (bz1 : Int32) (bz2 : Int32) (bz3 : Int32) (bz4 : Int32) (bz5 : Int32) (bz6 : Int32) (tz0 : Int32) (tz1 : Int32) (tz2 : Int32) (tz3 : Int32) (tz4 : Int32) (tz5 : Int32) (tz6 : Int32) (hc0 : V (kb + 50) = some (.inr (1, [.ref (kb + 51), .ref (kb + 52), .int (e_fd), .ref (kb + 53), .ref (kb + 55), .ref (kb + 57), .ref (qt), .ref (kb), .ref (kb + 5), .int (e_sz), .ref (kb + 59), .ref (kb + 60), .ref (kb + 61)]))) (hc1 : V (kb + 51) = some (.inr (10, [.int (bz0), .int (bz1), .int (bz2), .int (bz3), .int (bz4), .int (bz5), .int (bz6)]))) (hc2 : V (kb + 52) = some (.inr (10, [.int (tz0), .int (tz1), .int (tz2), .int (tz3), .int (tz4), .int (tz5), .int (tz6)]))) (hbw : hx_BW bk.2.2.2.length e_fd.toInt tz0.toInt tz1.toInt tz2.toInt bz0.toInt bz1.toInt bz2.toInt bz3.toInt bz4.toInt bz5.toInt bz6.toInt Y) : hp_M l yX1_isBetter cX1_isBetter 3 (some .boolean) ({ frames := 2, cells := 0, slots := 0, locals := 41 }) D cs B V n [.ref (kb + 50)] (hp_QI D cs B (fun r V' n' => n = n' ∧ V = V' ∧ ((r.toInt = 1 ∧ ((sp_wk tz0.toInt tz3.toInt tz4.toInt tz5.toInt tz6.toInt) ≤ 2 ∧ ((sp_wc tz0.toInt tz3.toInt tz4.toInt tz5.toInt tz6.toInt) < Y.1 ∨ ((sp_wc tz0.toInt tz3.toInt tz4.toInt tz5.toInt tz6.toInt) = Y.1 ∧ (sp_wk tz0.toInt tz3.toInt tz4.toInt tz5.toInt tz6.toInt) < Y.2.1)))) ∨ (r.toInt = 0 ∧ ¬ ((sp_wk tz0.toInt tz3.toInt tz4.toInt tz5.toInt tz6.toInt) ≤ 2 ∧ ((sp_wc tz0.toInt tz3.toInt tz4.toInt tz5.toInt tz6.toInt) < Y.1 ∨ ((sp_wc tz0.toInt tz3.toInt tz4.toInt tz5.toInt tz6.toInt) = Y.1 ∧ (sp_wk tz0.toInt tz3.toInt tz4.toInt tz5.toInt tz6.toInt) < Y.2.1))))))) 0 0 := by
  refine hp_walk (R0 := RX1) (by decide) rfl ?_ (Nat.le_of_ble_eq_true rfl)
  intro p e s m below meth c ls hx hb hr hts hown hlocks hin hml hZ hl
  have hP : hq_I cs G V := hI
  have hl : lv_has ls 3 [(0, .ref (kb + 50))] := hl
  have hb_e_fd := hq_rng e_fd
  have hb_e_sz := hq_rng e_sz
  have hb_bz0 := hq_rng bz0
  have hb_bz1 := hq_rng bz1
  have hb_bz2 := hq_rng bz2
  have hb_bz3 := hq_rng bz3
  have hb_bz4 := hq_rng bz4
  have hb_bz5 := hq_rng bz5
  have hb_bz6 := hq_rng bz6
  have hb_tz0 := hq_rng tz0
  have hb_tz1 := hq_rng tz1
  have hb_tz2 := hq_rng tz2
  have hb_tz3 := hq_rng tz3
  have hb_tz4 := hq_rng tz4
  have hb_tz5 := hq_rng tz5
  have hb_tz6 := hq_rng tz6
  have hcr := sp_wc_rg tz0.toInt tz3.toInt tz4.toInt tz5.toInt tz6.toInt
  have hkr := sp_wk_rg tz0.toInt tz3.toInt tz4.toInt tz5.toInt tz6.toInt
  have hcb := sp_wc_rg bz0.toInt bz3.toInt bz4.toInt bz5.toInt bz6.toInt
  refine lv_aload_n hx hb dX1_isBetter_0 rfl (lv_at hl 0 rfl) ?_
  refine hp_get (v := .ref (kb + 52)) hx hb hts hown hZ hc0 fl_X1_18 rfl dX1_isBetter_1 ?_
  refine hp_calli (hp_runV (As := []) (rest := []) hx hb hml hown hts (x_chgs l D cs B G V n hP (kb + 52) (tz0) (tz1) (tz2) (tz3) (tz4) (tz5) (tz6)  hc2  ) hZ hc2 cv_X1_140 rfl rfl ⟨Nat.le_of_ble_eq_true rfl, Nat.le_of_ble_eq_true rfl⟩ rfl hl.1 rfl (Nat.le_of_ble_eq_true rfl) dX1_isBetter_4 ⟨(Nat.le_of_ble_eq_true rfl), (Nat.le_of_ble_eq_true rfl)⟩) hZ (fun r4 V1 n2 _ _ hw3 hZ => ?_)
  obtain ⟨rfl, rfl, hp7⟩ := hw3
  have b8 := hq_rng r4
  refine lv_istore_n (lv' := [(1, .int (r4)), (0, .ref (kb + 50))]) hx hb dX1_isBetter_7 rfl hl (by decide) rfl (fun ls hl => ?_)
  refine lv_iload_n hx hb dX1_isBetter_8 rfl (lv_at hl 0 rfl) ?_
  refine lv_iconst (v := 2) hx hb dX1_isBetter_9 (by decide) ?_
  refine lv_icmp_gt (tgt := 20) hx hb dX1_isBetter_10 (by decide) (fun c9 => ?_) (fun c9 => ?_)
  · have c9 : (2 : Int) < (r4).toInt := hq_lti.mp c9
    refine lv_iload_n hx hb dX1_isBetter_20 rfl (lv_at hl 0 rfl) ?_
    refine lv_iconst (v := 2) hx hb dX1_isBetter_21 (by decide) ?_
    refine lv_icmp_gt (tgt := 29) hx hb dX1_isBetter_22 (by decide) (fun c10 => ?_) (fun c10 => ?_)
    · have c10 : (2 : Int) < (r4).toInt := hq_lti.mp c10
      refine lv_iconst (v := 0) hx hb dX1_isBetter_29 (by decide) ?_
      have hl11 : (0 : Int32).toInt = 0 := by decide
      exact hp_zret hx hb hr rfl hlocks hZ ⟨rfl, rfl, (by omega)⟩ dX1_isBetter_30
    · have c10 : ¬ (2 : Int) < (r4).toInt := fun h9 => c10 (hq_lti.mpr h9)
      refine lv_iconst (v := 1) hx hb dX1_isBetter_25 (by decide) ?_
      refine lv_goto (tgt := 30) hx hb dX1_isBetter_26 (by decide) ?_
      have hl12 : (1 : Int32).toInt = 1 := by decide
      exact hp_zret hx hb hr rfl hlocks hZ ⟨rfl, rfl, (by omega)⟩ dX1_isBetter_30
  · have c9 : ¬ (2 : Int) < (r4).toInt := fun h9 => c9 (hq_lti.mpr h9)
    refine lv_aload_n hx hb dX1_isBetter_13 rfl (lv_at hl 1 rfl) ?_
    refine hp_get (v := .int (e_fd)) hx hb hts hown hZ hc0 fl_X1_76 rfl dX1_isBetter_14 ?_
    refine lv_if_ne (tgt := 31) hx hb dX1_isBetter_17 (by decide) (fun c13 => ?_) (fun c13 => ?_)
    · have c13 : ¬ (e_fd).toInt = (0 : Int) := fun h9 => c13 (hq_eqi.mpr h9)
      obtain ⟨hy1, hy2⟩ : Y.1 = sp_wc bz0.toInt bz3.toInt bz4.toInt bz5.toInt bz6.toInt ∧ Y.2.1 = sp_wk bz0.toInt bz3.toInt bz4.toInt bz5.toInt bz6.toInt := by rcases hbw with g9 | ⟨g1, g2, g3, -⟩; (· omega); (· rw [g2, g3]; exact ⟨rfl, rfl⟩)
      refine lv_aload_n hx hb dX1_isBetter_31 rfl (lv_at hl 1 rfl) ?_
      refine hp_get (v := .ref (kb + 51)) hx hb hts hown hZ hc0 fl_X1_12 rfl dX1_isBetter_32 ?_
      refine hp_calli (hp_runV (As := []) (rest := []) hx hb hml hown hts (x_cost l D cs B G V n hP (kb + 51) (bz0) (bz1) (bz2) (bz3) (bz4) (bz5) (bz6)  hc1  ) hZ hc1 cv_X1_163 rfl rfl ⟨Nat.le_of_ble_eq_true rfl, Nat.le_of_ble_eq_true rfl⟩ rfl hl.1 rfl (Nat.le_of_ble_eq_true rfl) dX1_isBetter_35 ⟨(Nat.le_of_ble_eq_true rfl), (Nat.le_of_ble_eq_true rfl)⟩) hZ (fun r17 V14 n15 _ _ hw16 hZ => ?_)
      obtain ⟨rfl, rfl, hp20⟩ := hw16
      have b21 := hq_rng r17
      refine lv_aload_n hx hb dX1_isBetter_38 rfl (lv_at hl 1 rfl) ?_
      refine hp_get (v := .ref (kb + 52)) hx hb hts hown hZ hc0 fl_X1_18 rfl dX1_isBetter_39 ?_
      refine hp_calli (hp_runV (As := []) (rest := [.int (r17)]) hx hb hml hown hts (x_cost l D cs B G V n hP (kb + 52) (tz0) (tz1) (tz2) (tz3) (tz4) (tz5) (tz6)  hc2  ) hZ hc2 cv_X1_163 rfl rfl ⟨Nat.le_of_ble_eq_true rfl, Nat.le_of_ble_eq_true rfl⟩ rfl hl.1 rfl (Nat.le_of_ble_eq_true rfl) dX1_isBetter_42 ⟨(Nat.le_of_ble_eq_true rfl), (Nat.le_of_ble_eq_true rfl)⟩) hZ (fun r25 V22 n23 _ _ hw24 hZ => ?_)
      obtain ⟨rfl, rfl, hp28⟩ := hw24
      have b29 := hq_rng r25
      refine lv_isub hx hb dX1_isBetter_45 ?_
      refine lv_topi (fun y30 ey31 => ?_)
      obtain ⟨k32, hk33, b34, b35⟩ := hq_sub (r17) (r25)
      rw [← ey31] at hk33 b34 b35
      have hk33 : (y30).toInt = (r17).toInt - (r25).toInt + k32 * 4294967296 := hk33
      obtain rfl : k32 = 0 := by omega
      refine lv_istore_n (lv' := [(2, .int (y30)), (1, .int (r4)), (0, .ref (kb + 50))]) hx hb dX1_isBetter_46 rfl hl (by decide) rfl (fun ls hl => ?_)
      refine lv_iload_n hx hb dX1_isBetter_47 rfl (lv_at hl 0 rfl) ?_
      refine lv_if_gt (tgt := 66) hx hb dX1_isBetter_48 (by decide) (fun c36 => ?_) (fun c36 => ?_)
      · have c36 : (0 : Int) < (y30).toInt := hq_lti.mp c36
        refine lv_iconst (v := 1) hx hb dX1_isBetter_66 (by decide) ?_
        refine lv_goto (tgt := 71) hx hb dX1_isBetter_67 (by decide) ?_
        have hl37 : (1 : Int32).toInt = 1 := by decide
        exact hp_zret hx hb hr rfl hlocks hZ ⟨rfl, rfl, (by omega)⟩ dX1_isBetter_71
      · have c36 : ¬ (0 : Int) < (y30).toInt := fun h9 => c36 (hq_lti.mpr h9)
        refine lv_iload_n hx hb dX1_isBetter_51 rfl (lv_at hl 0 rfl) ?_
        refine lv_if_ne (tgt := 70) hx hb dX1_isBetter_52 (by decide) (fun c38 => ?_) (fun c38 => ?_)
        · have c38 : ¬ (y30).toInt = (0 : Int) := fun h9 => c38 (hq_eqi.mpr h9)
          refine lv_iconst (v := 0) hx hb dX1_isBetter_70 (by decide) ?_
          have hl39 : (0 : Int32).toInt = 0 := by decide
          exact hp_zret hx hb hr rfl hlocks hZ ⟨rfl, rfl, (by omega)⟩ dX1_isBetter_71
        · have c38 : (y30).toInt = (0 : Int) := hq_eqi.mp c38
          refine lv_iload_n hx hb dX1_isBetter_55 rfl (lv_at hl 1 rfl) ?_
          refine lv_aload_n hx hb dX1_isBetter_56 rfl (lv_at hl 2 rfl) ?_
          refine hp_get (v := .ref (kb + 51)) hx hb hts hown hZ hc0 fl_X1_12 rfl dX1_isBetter_57 ?_
          refine hp_calli (hp_runV (As := []) (rest := [.int (r4)]) hx hb hml hown hts (x_chgs l D cs B G V n hP (kb + 51) (bz0) (bz1) (bz2) (bz3) (bz4) (bz5) (bz6)  hc1  ) hZ hc1 cv_X1_140 rfl rfl ⟨Nat.le_of_ble_eq_true rfl, Nat.le_of_ble_eq_true rfl⟩ rfl hl.1 rfl (Nat.le_of_ble_eq_true rfl) dX1_isBetter_60 ⟨(Nat.le_of_ble_eq_true rfl), (Nat.le_of_ble_eq_true rfl)⟩) hZ (fun r43 V40 n41 _ _ hw42 hZ => ?_)
          obtain ⟨rfl, rfl, hp46⟩ := hw42
          have b47 := hq_rng r43
          refine lv_icmp_ge (tgt := 70) hx hb dX1_isBetter_63 (by decide) (fun c48 => ?_) (fun c48 => ?_)
          · have c48 : (r43).toInt ≤ (r4).toInt := hq_lei.mp c48
            refine lv_iconst (v := 0) hx hb dX1_isBetter_70 (by decide) ?_
            have hl49 : (0 : Int32).toInt = 0 := by decide
            exact hp_zret hx hb hr rfl hlocks hZ ⟨rfl, rfl, (by omega)⟩ dX1_isBetter_71
          · have c48 : ¬ (r43).toInt ≤ (r4).toInt := fun h9 => c48 (hq_lei.mpr h9)
            refine lv_iconst (v := 1) hx hb dX1_isBetter_66 (by decide) ?_
            refine lv_goto (tgt := 71) hx hb dX1_isBetter_67 (by decide) ?_
            have hl50 : (1 : Int32).toInt = 1 := by decide
            exact hp_zret hx hb hr rfl hlocks hZ ⟨rfl, rfl, (by omega)⟩ dX1_isBetter_71
    · have c13 : (e_fd).toInt = (0 : Int) := hq_eqi.mp c13
      have hy0 : Y.1 = 1000 := by rcases hbw with g9 | g9; (· exact g9.2); (· omega)
      refine lv_iload_n hx hb dX1_isBetter_20 rfl (lv_at hl 0 rfl) ?_
      refine lv_iconst (v := 2) hx hb dX1_isBetter_21 (by decide) ?_
      refine lv_icmp_gt (tgt := 29) hx hb dX1_isBetter_22 (by decide) (fun c51 => ?_) (fun c51 => ?_)
      · have c51 : (2 : Int) < (r4).toInt := hq_lti.mp c51
        refine lv_iconst (v := 0) hx hb dX1_isBetter_29 (by decide) ?_
        have hl52 : (0 : Int32).toInt = 0 := by decide
        exact hp_zret hx hb hr rfl hlocks hZ ⟨rfl, rfl, (by omega)⟩ dX1_isBetter_30
      · have c51 : ¬ (2 : Int) < (r4).toInt := fun h9 => c51 (hq_lti.mpr h9)
        refine lv_iconst (v := 1) hx hb dX1_isBetter_25 (by decide) ?_
        refine lv_goto (tgt := 30) hx hb dX1_isBetter_26 (by decide) ?_
        have hl53 : (1 : Int32).toInt = 1 := by decide
        exact hp_zret hx hb hr rfl hlocks hZ ⟨rfl, rfl, (by omega)⟩ dX1_isBetter_30

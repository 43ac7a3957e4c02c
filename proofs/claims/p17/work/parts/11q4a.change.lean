set_option maxHeartbeats 4000000 in
set_option maxRecDepth 100000 in
theorem x_detail (l : Launch) (D : va_G) (cs : Nat → ClassId) (B : Nat) (G : hq_G) (V : hp_V) (n : Nat) (hI : hq_I cs G V) (kb : Nat) (T : List sp_C3) (k : Int32) (e_fd : Int32) (e_sz : Int32) (e_bk : Value) (e_an : Value) (e_mk : Value) (kk : Nat → Int32) (mm : Nat → Int32) (tt_ : Nat → Int32) (hc0 : V (kb + 50) = some (.inr (1, [.ref (kb + 51), .ref (kb + 52), .int (e_fd), .ref (kb + 53), .ref (kb + 55), .ref (kb + 57), e_bk, e_an, e_mk, .int (e_sz), .ref (kb + 59), .ref (kb + 60), .ref (kb + 61)]))) (hc1 : V (kb + 59) = some (.inl (cs 1, 2, .inl (kk)))) (hc2 : V (kb + 60) = some (.inl (cs 1, 2, .inl (mm)))) (hc3 : V (kb + 61) = some (.inl (cs 1, 2, .inl (tt_)))) (hT : sp_hl e_sz kk mm tt_ T) (hT2 : T.length ≤ 2) : hp_M l yX1_detail cX1_detail 3 (some .int) ({ frames := 1, cells := 0, slots := 0, locals := 21 }) D cs B V n [.ref (kb + 50), .int (k)] (hp_QI D cs B (fun r V' n' => n = n' ∧ V = V' ∧ (r.toInt = sp_cha T k.toInt))) 0 0 := by
  refine hp_walk (R0 := RX1) (by decide) rfl ?_ (Nat.le_of_ble_eq_true rfl)
  intro p e s m below meth c ls hx hb hr hts hown hlocks hin hml hZ hl
  have hP : hq_I cs G V := hI
  have hl : lv_has ls 3 [(0, .ref (kb + 50)), (1, .int (k))] := hl
  have hb_k := hq_rng k
  have hb_e_fd := hq_rng e_fd
  have hb_e_sz := hq_rng e_sz
  have hT1 := hT.1
  refine lv_iload_n hx hb dX1_detail_0 rfl (lv_at hl 1 rfl) ?_
  refine lv_if_ne (tgt := 16) hx hb dX1_detail_1 (by decide) (fun c1 => ?_) (fun c1 => ?_)
  · have c1 : ¬ (k).toInt = (0 : Int) := fun h9 => c1 (hq_eqi.mpr h9)
    refine lv_iload_n hx hb dX1_detail_16 rfl (lv_at hl 1 rfl) ?_
    refine lv_bipush (v := 10) hx hb dX1_detail_17 (by decide) ?_
    refine lv_icmp_ge (tgt := 26) hx hb dX1_detail_19 (by decide) (fun c2 => ?_) (fun c2 => ?_)
    · have c2 : (10 : Int) ≤ (k).toInt := hq_lei.mp c2
      refine lv_iload_n hx hb dX1_detail_26 rfl (lv_at hl 1 rfl) ?_
      refine lv_bipush (v := 10) hx hb dX1_detail_27 (by decide) ?_
      refine lv_irem hx hb dX1_detail_29 (by decide) ?_
      refine lv_topi (fun y3 ey4 => ?_)
      have b5 : (y3).toInt = (k).toInt % 10 := by rw [ey4]; exact hq_remp k 10 (by omega) (by decide)
      refine lv_istore_n (lv' := [(2, .int (y3)), (0, .ref (kb + 50)), (1, .int (k))]) hx hb dX1_detail_30 rfl hl (by decide) rfl (fun ls hl => ?_)
      refine lv_iload_n hx hb dX1_detail_31 rfl (lv_at hl 0 rfl) ?_
      refine lv_if_lt (tgt := 43) hx hb dX1_detail_32 (by decide) (fun c6 => ?_) (fun c6 => ?_)
      · have c6 : (y3).toInt < (0 : Int) := hq_lti.mp c6
        refine lv_bipush (v := -9) hx hb dX1_detail_43 (by decide) ?_
        have hl7 : (-9 : Int32).toInt = -9 := by decide
        have hl9 : (-9 : Int32).toInt = -9 := by decide
        exact hp_iret hx hb hr hlocks hZ ⟨rfl, rfl, by rw [sp_cha_n (T := T) (by omega) (by omega) (by omega) (by omega)]; omega⟩ dX1_detail_45
      · have c6 : ¬ (y3).toInt < (0 : Int) := fun h9 => c6 (hq_lti.mpr h9)
        refine lv_iload_n hx hb dX1_detail_35 rfl (lv_at hl 0 rfl) ?_
        refine lv_aload_n hx hb dX1_detail_36 rfl (lv_at hl 1 rfl) ?_
        refine hp_get (v := .int (e_sz)) hx hb hts hown hZ hc0 fl_X1_46 rfl dX1_detail_37 ?_
        refine lv_icmp_lt (tgt := 46) hx hb dX1_detail_40 (by decide) (fun c8 => ?_) (fun c8 => ?_)
        · have c8 : (y3).toInt < (e_sz).toInt := hq_lti.mp c8
          refine lv_iload_n hx hb dX1_detail_46 rfl (lv_at hl 2 rfl) ?_
          refine lv_bipush (v := 10) hx hb dX1_detail_47 (by decide) ?_
          refine lv_idiv hx hb dX1_detail_49 (by decide) ?_
          refine lv_topi (fun y9 ey10 => ?_)
          have b11 : (y9).toInt = (k).toInt / 10 := by rw [ey10]; exact hq_divp k 10 (by omega) (by decide)
          rcases Classical.em (y9 = 1) with h12 | h12
          · refine lv_tableIn (off := 26) (tgt := 76) hx hb dX1_detail_50 (by rw [h12]; decide) (by rw [h12]; decide) (by rw [h12]; decide) (by decide) ?_
            have b13 : (y9).toInt = 1 := by rw [h12]; decide
            refine lv_aload_n hx hb dX1_detail_76 rfl (lv_at hl 1 rfl) ?_
            refine hp_get (v := .ref (kb + 59)) hx hb hts hown hZ hc0 fl_X1_36 rfl dX1_detail_77 ?_
            refine lv_iload_n hx hb dX1_detail_80 rfl (lv_at hl 0 rfl) ?_
            have hin9 := (hq_nn (z := y3) (by omega)).1
            refine hp_iald hx hb hZ hc1 (hq_in (by omega) (by omega)) dX1_detail_81 ?_
            refine lv_topi (fun y14 ey15 => ?_)
            have b16 := hq_rng y14
            exact hp_iret hx hb hr hlocks hZ ⟨rfl, rfl, by have h9 := hT.nth (i := (y3 : Int32).toNatClampNeg) (by omega); rw [sp_cha_1 (by omega) (show T[(k.toInt - 10).toNat]? = some _ by rw [show (k.toInt - 10).toNat = (y3 : Int32).toNatClampNeg by omega]; exact h9), ey15]⟩ dX1_detail_82
          ·
            rcases Classical.em (y9 = 2) with h17 | h17
            · refine lv_tableIn (off := 33) (tgt := 83) hx hb dX1_detail_50 (by rw [h17]; decide) (by rw [h17]; decide) (by rw [h17]; decide) (by decide) ?_
              have b18 : (y9).toInt = 2 := by rw [h17]; decide
              refine lv_aload_n hx hb dX1_detail_83 rfl (lv_at hl 1 rfl) ?_
              refine hp_get (v := .ref (kb + 60)) hx hb hts hown hZ hc0 fl_X1_40 rfl dX1_detail_84 ?_
              refine lv_iload_n hx hb dX1_detail_87 rfl (lv_at hl 0 rfl) ?_
              have hin9 := (hq_nn (z := y3) (by omega)).1
              refine hp_iald hx hb hZ hc2 (hq_in (by omega) (by omega)) dX1_detail_88 ?_
              refine lv_topi (fun y19 ey20 => ?_)
              have b21 := hq_rng y19
              exact hp_iret hx hb hr hlocks hZ ⟨rfl, rfl, by have h9 := hT.nth (i := (y3 : Int32).toNatClampNeg) (by omega); rw [sp_cha_2 (by omega) (by omega) (show T[(k.toInt - 20).toNat]? = some _ by rw [show (k.toInt - 20).toNat = (y3 : Int32).toNatClampNeg by omega]; exact h9), ey20]⟩ dX1_detail_89
            ·
              rcases Classical.em (y9 = 3) with h22 | h22
              · refine lv_tableIn (off := 40) (tgt := 90) hx hb dX1_detail_50 (by rw [h22]; decide) (by rw [h22]; decide) (by rw [h22]; decide) (by decide) ?_
                have b23 : (y9).toInt = 3 := by rw [h22]; decide
                refine lv_aload_n hx hb dX1_detail_90 rfl (lv_at hl 1 rfl) ?_
                refine hp_get (v := .ref (kb + 61)) hx hb hts hown hZ hc0 fl_X1_43 rfl dX1_detail_91 ?_
                refine lv_iload_n hx hb dX1_detail_94 rfl (lv_at hl 0 rfl) ?_
                have hin9 := (hq_nn (z := y3) (by omega)).1
                refine hp_iald hx hb hZ hc3 (hq_in (by omega) (by omega)) dX1_detail_95 ?_
                refine lv_topi (fun y24 ey25 => ?_)
                have b26 := hq_rng y24
                exact hp_iret hx hb hr hlocks hZ ⟨rfl, rfl, by have h9 := hT.nth (i := (y3 : Int32).toNatClampNeg) (by omega); rw [sp_cha_3 (by omega) (by omega) (show T[(k.toInt - 30).toNat]? = some _ by rw [show (k.toInt - 30).toNat = (y3 : Int32).toNatClampNeg by omega]; exact h9), ey25]⟩ dX1_detail_96
              ·
                have z27 : ¬ (y9).toInt = 1 := lv_neT h12 (by decide)
                have z28 : ¬ (y9).toInt = 2 := lv_neT h17 (by decide)
                have z29 : ¬ (y9).toInt = 3 := lv_neT h22 (by decide)
                refine lv_tableOut (tgt := 97) hx hb dX1_detail_50 (by omega) (by decide) ?_
                refine lv_bipush (v := -9) hx hb dX1_detail_97 (by decide) ?_
                have hl30 : (-9 : Int32).toInt = -9 := by decide
                have hl9 : (-9 : Int32).toInt = -9 := by decide
                exact hp_iret hx hb hr hlocks hZ ⟨rfl, rfl, by rw [sp_cha_n (T := T) (by omega) (by omega) (by omega) (by omega)]; omega⟩ dX1_detail_99
        · have c8 : ¬ (y3).toInt < (e_sz).toInt := fun h9 => c8 (hq_lti.mpr h9)
          refine lv_bipush (v := -9) hx hb dX1_detail_43 (by decide) ?_
          have hl31 : (-9 : Int32).toInt = -9 := by decide
          have hl9 : (-9 : Int32).toInt = -9 := by decide
          exact hp_iret hx hb hr hlocks hZ ⟨rfl, rfl, by rw [sp_cha_n (T := T) (by omega) (by omega) (by omega) (by omega)]; omega⟩ dX1_detail_45
    · have c2 : ¬ (10 : Int) ≤ (k).toInt := fun h9 => c2 (hq_lei.mpr h9)
      refine lv_iconst (v := -1) hx hb dX1_detail_22 (by decide) ?_
      refine lv_goto (tgt := 30) hx hb dX1_detail_23 (by decide) ?_
      refine lv_istore_n (lv' := [(2, .int (-1)), (0, .ref (kb + 50)), (1, .int (k))]) hx hb dX1_detail_30 rfl hl (by decide) rfl (fun ls hl => ?_)
      refine lv_iload_n hx hb dX1_detail_31 rfl (lv_at hl 0 rfl) ?_
      refine lv_if_lt (tgt := 43) hx hb dX1_detail_32 (by decide) (fun c32 => ?_) (fun c32 => absurd (by decide) c32)
      refine lv_bipush (v := -9) hx hb dX1_detail_43 (by decide) ?_
      have hl33 : (-9 : Int32).toInt = -9 := by decide
      have hl9 : (-9 : Int32).toInt = -9 := by decide
      exact hp_iret hx hb hr hlocks hZ ⟨rfl, rfl, by rw [sp_cha_n (T := T) (by omega) (by omega) (by omega) (by omega)]; omega⟩ dX1_detail_45
  · have c1 : (k).toInt = (0 : Int) := hq_eqi.mp c1
    refine lv_aload_n hx hb dX1_detail_4 rfl (lv_at hl 0 rfl) ?_
    refine hp_get (v := .int (e_sz)) hx hb hts hown hZ hc0 fl_X1_46 rfl dX1_detail_5 ?_
    refine lv_if_le (tgt := 16) hx hb dX1_detail_8 (by decide) (fun c34 => ?_) (fun c34 => ?_)
    · have c34 : (e_sz).toInt ≤ (0 : Int) := hq_lei.mp c34
      refine lv_iload_n hx hb dX1_detail_16 rfl (lv_at hl 1 rfl) ?_
      refine lv_bipush (v := 10) hx hb dX1_detail_17 (by decide) ?_
      refine lv_icmp_ge (tgt := 26) hx hb dX1_detail_19 (by decide) (fun c35 => ?_) (fun c35 => ?_)
      · have c35 : (10 : Int) ≤ (k).toInt := hq_lei.mp c35
        refine lv_iload_n hx hb dX1_detail_26 rfl (lv_at hl 1 rfl) ?_
        refine lv_bipush (v := 10) hx hb dX1_detail_27 (by decide) ?_
        refine lv_irem hx hb dX1_detail_29 (by decide) ?_
        refine lv_topi (fun y36 ey37 => ?_)
        have b38 : (y36).toInt = (k).toInt % 10 := by rw [ey37]; exact hq_remp k 10 (by omega) (by decide)
        refine lv_istore_n (lv' := [(2, .int (y36)), (0, .ref (kb + 50)), (1, .int (k))]) hx hb dX1_detail_30 rfl hl (by decide) rfl (fun ls hl => ?_)
        refine lv_iload_n hx hb dX1_detail_31 rfl (lv_at hl 0 rfl) ?_
        refine lv_if_lt (tgt := 43) hx hb dX1_detail_32 (by decide) (fun c39 => ?_) (fun c39 => ?_)
        · have c39 : (y36).toInt < (0 : Int) := hq_lti.mp c39
          refine lv_bipush (v := -9) hx hb dX1_detail_43 (by decide) ?_
          have hl40 : (-9 : Int32).toInt = -9 := by decide
          have hl9 : (-9 : Int32).toInt = -9 := by decide
          exact hp_iret hx hb hr hlocks hZ ⟨rfl, rfl, by rw [sp_cha_n (T := T) (by omega) (by omega) (by omega) (by omega)]; omega⟩ dX1_detail_45
        · have c39 : ¬ (y36).toInt < (0 : Int) := fun h9 => c39 (hq_lti.mpr h9)
          refine lv_iload_n hx hb dX1_detail_35 rfl (lv_at hl 0 rfl) ?_
          refine lv_aload_n hx hb dX1_detail_36 rfl (lv_at hl 1 rfl) ?_
          refine hp_get (v := .int (e_sz)) hx hb hts hown hZ hc0 fl_X1_46 rfl dX1_detail_37 ?_
          refine lv_icmp_lt (tgt := 46) hx hb dX1_detail_40 (by decide) (fun c41 => ?_) (fun c41 => ?_)
          · have c41 : (y36).toInt < (e_sz).toInt := hq_lti.mp c41
            refine lv_iload_n hx hb dX1_detail_46 rfl (lv_at hl 2 rfl) ?_
            refine lv_bipush (v := 10) hx hb dX1_detail_47 (by decide) ?_
            refine lv_idiv hx hb dX1_detail_49 (by decide) ?_
            refine lv_topi (fun y42 ey43 => ?_)
            have b44 : (y42).toInt = (k).toInt / 10 := by rw [ey43]; exact hq_divp k 10 (by omega) (by decide)
            rcases Classical.em (y42 = 1) with h45 | h45
            · refine lv_tableIn (off := 26) (tgt := 76) hx hb dX1_detail_50 (by rw [h45]; decide) (by rw [h45]; decide) (by rw [h45]; decide) (by decide) ?_
              have b46 : (y42).toInt = 1 := by rw [h45]; decide
              refine lv_aload_n hx hb dX1_detail_76 rfl (lv_at hl 1 rfl) ?_
              refine hp_get (v := .ref (kb + 59)) hx hb hts hown hZ hc0 fl_X1_36 rfl dX1_detail_77 ?_
              refine lv_iload_n hx hb dX1_detail_80 rfl (lv_at hl 0 rfl) ?_
              have hin9 := (hq_nn (z := y36) (by omega)).1
              refine hp_iald hx hb hZ hc1 (hq_in (by omega) (by omega)) dX1_detail_81 ?_
              refine lv_topi (fun y47 ey48 => ?_)
              have b49 := hq_rng y47
              exact hp_iret hx hb hr hlocks hZ ⟨rfl, rfl, by have h9 := hT.nth (i := (y36 : Int32).toNatClampNeg) (by omega); rw [sp_cha_1 (by omega) (show T[(k.toInt - 10).toNat]? = some _ by rw [show (k.toInt - 10).toNat = (y36 : Int32).toNatClampNeg by omega]; exact h9), ey48]⟩ dX1_detail_82
            ·
              rcases Classical.em (y42 = 2) with h50 | h50
              · refine lv_tableIn (off := 33) (tgt := 83) hx hb dX1_detail_50 (by rw [h50]; decide) (by rw [h50]; decide) (by rw [h50]; decide) (by decide) ?_
                have b51 : (y42).toInt = 2 := by rw [h50]; decide
                refine lv_aload_n hx hb dX1_detail_83 rfl (lv_at hl 1 rfl) ?_
                refine hp_get (v := .ref (kb + 60)) hx hb hts hown hZ hc0 fl_X1_40 rfl dX1_detail_84 ?_
                refine lv_iload_n hx hb dX1_detail_87 rfl (lv_at hl 0 rfl) ?_
                have hin9 := (hq_nn (z := y36) (by omega)).1
                refine hp_iald hx hb hZ hc2 (hq_in (by omega) (by omega)) dX1_detail_88 ?_
                refine lv_topi (fun y52 ey53 => ?_)
                have b54 := hq_rng y52
                exact hp_iret hx hb hr hlocks hZ ⟨rfl, rfl, by have h9 := hT.nth (i := (y36 : Int32).toNatClampNeg) (by omega); rw [sp_cha_2 (by omega) (by omega) (show T[(k.toInt - 20).toNat]? = some _ by rw [show (k.toInt - 20).toNat = (y36 : Int32).toNatClampNeg by omega]; exact h9), ey53]⟩ dX1_detail_89
              ·
                rcases Classical.em (y42 = 3) with h55 | h55
                · refine lv_tableIn (off := 40) (tgt := 90) hx hb dX1_detail_50 (by rw [h55]; decide) (by rw [h55]; decide) (by rw [h55]; decide) (by decide) ?_
                  have b56 : (y42).toInt = 3 := by rw [h55]; decide
                  refine lv_aload_n hx hb dX1_detail_90 rfl (lv_at hl 1 rfl) ?_
                  refine hp_get (v := .ref (kb + 61)) hx hb hts hown hZ hc0 fl_X1_43 rfl dX1_detail_91 ?_
                  refine lv_iload_n hx hb dX1_detail_94 rfl (lv_at hl 0 rfl) ?_
                  have hin9 := (hq_nn (z := y36) (by omega)).1
                  refine hp_iald hx hb hZ hc3 (hq_in (by omega) (by omega)) dX1_detail_95 ?_
                  refine lv_topi (fun y57 ey58 => ?_)
                  have b59 := hq_rng y57
                  exact hp_iret hx hb hr hlocks hZ ⟨rfl, rfl, by have h9 := hT.nth (i := (y36 : Int32).toNatClampNeg) (by omega); rw [sp_cha_3 (by omega) (by omega) (show T[(k.toInt - 30).toNat]? = some _ by rw [show (k.toInt - 30).toNat = (y36 : Int32).toNatClampNeg by omega]; exact h9), ey58]⟩ dX1_detail_96
                ·
                  have z60 : ¬ (y42).toInt = 1 := lv_neT h45 (by decide)
                  have z61 : ¬ (y42).toInt = 2 := lv_neT h50 (by decide)
                  have z62 : ¬ (y42).toInt = 3 := lv_neT h55 (by decide)
                  refine lv_tableOut (tgt := 97) hx hb dX1_detail_50 (by omega) (by decide) ?_
                  refine lv_bipush (v := -9) hx hb dX1_detail_97 (by decide) ?_
                  have hl63 : (-9 : Int32).toInt = -9 := by decide
                  have hl9 : (-9 : Int32).toInt = -9 := by decide
                  exact hp_iret hx hb hr hlocks hZ ⟨rfl, rfl, by rw [sp_cha_n (T := T) (by omega) (by omega) (by omega) (by omega)]; omega⟩ dX1_detail_99
          · have c41 : ¬ (y36).toInt < (e_sz).toInt := fun h9 => c41 (hq_lti.mpr h9)
            refine lv_bipush (v := -9) hx hb dX1_detail_43 (by decide) ?_
            have hl64 : (-9 : Int32).toInt = -9 := by decide
            have hl9 : (-9 : Int32).toInt = -9 := by decide
            exact hp_iret hx hb hr hlocks hZ ⟨rfl, rfl, by rw [sp_cha_n (T := T) (by omega) (by omega) (by omega) (by omega)]; omega⟩ dX1_detail_45
      · have c35 : ¬ (10 : Int) ≤ (k).toInt := fun h9 => c35 (hq_lei.mpr h9)
        refine lv_iconst (v := -1) hx hb dX1_detail_22 (by decide) ?_
        refine lv_goto (tgt := 30) hx hb dX1_detail_23 (by decide) ?_
        refine lv_istore_n (lv' := [(2, .int (-1)), (0, .ref (kb + 50)), (1, .int (k))]) hx hb dX1_detail_30 rfl hl (by decide) rfl (fun ls hl => ?_)
        refine lv_iload_n hx hb dX1_detail_31 rfl (lv_at hl 0 rfl) ?_
        refine lv_if_lt (tgt := 43) hx hb dX1_detail_32 (by decide) (fun c65 => ?_) (fun c65 => absurd (by decide) c65)
        refine lv_bipush (v := -9) hx hb dX1_detail_43 (by decide) ?_
        have hl66 : (-9 : Int32).toInt = -9 := by decide
        have hl9 : (-9 : Int32).toInt = -9 := by decide
        exact hp_iret hx hb hr hlocks hZ ⟨rfl, rfl, by rw [sp_cha_n (T := T) (by omega) (by omega) (by omega) (by omega)]; omega⟩ dX1_detail_45
    · have c34 : ¬ (e_sz).toInt ≤ (0 : Int) := fun h9 => c34 (hq_lei.mpr h9)
      refine lv_aload_n hx hb dX1_detail_11 rfl (lv_at hl 0 rfl) ?_
      refine hp_get (v := .int (e_sz)) hx hb hts hown hZ hc0 fl_X1_46 rfl dX1_detail_12 ?_
      exact hp_iret hx hb hr hlocks hZ ⟨rfl, rfl, by rw [sp_cha_0 (T := T) (by omega) (by omega)]; omega⟩ dX1_detail_15

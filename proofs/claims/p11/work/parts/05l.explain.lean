theorem hq_divp (x k : Int32) (h0 : 0 ≤ x.toInt) (hk : 0 < k.toInt) : (x / k).toInt = x.toInt / k.toInt := by
  have h1 := hq_rng x
  have h2 : 0 ≤ x.toInt / k.toInt := Int.ediv_nonneg h0 (Int.le_of_lt hk)
  have h3 : x.toInt / k.toInt ≤ x.toInt := Int.ediv_le_self _ h0
  rw [Int32.toInt_div, Int.tdiv_eq_ediv_of_nonneg h0, Int.bmod_def]
  omega
theorem hq_remp (x k : Int32) (h0 : 0 ≤ x.toInt) (hk : 0 < k.toInt) : (x - x / k * k).toInt = x.toInt % k.toInt := by
  have h1 := hq_rng x
  have h2 := hq_divp x k h0 hk
  have h3 : (x / k).toInt * k.toInt = x.toInt - x.toInt % k.toInt := by
    rw [h2, Int.mul_comm]
    have := Int.mul_ediv_add_emod x.toInt k.toInt
    omega
  have h4 := Int.emod_nonneg x.toInt (show k.toInt ≠ 0 by omega)
  have h5 := Int.emod_lt_of_pos x.toInt hk
  have h7 := Int.mul_ediv_add_emod x.toInt k.toInt
  have h8 : 0 ≤ k.toInt * (x.toInt / k.toInt) := Int.mul_nonneg (Int.le_of_lt hk) (Int.ediv_nonneg h0 (Int.le_of_lt hk))
  have h6 : x.toInt % k.toInt ≤ x.toInt := by omega
  rw [Int32.toInt_sub, Int32.toInt_mul, h3, Int.bmod_def, Int.bmod_def]
  omega
set_option maxHeartbeats 4000000 in
set_option maxRecDepth 100000 in
theorem t_X10_changes (l : Launch) (D : va_G) (cs : Nat → ClassId) (B : Nat) (G : hq_G) (V : hp_V) (n : Nat) (hI : hq_I cs G V) (t : Nat) (h_t : G t = some (13, 0, 0, 0)) : hp_M l yX10_changes cX10_changes 1 (some .int) ({ frames := 1, cells := 0, slots := 0, locals := 21 }) D cs B V n [.ref (t)] (hp_QI D cs B (fun r V' n' => n = n' ∧ hq_P cs G (fun _ => false) V V' ∧ True)) 0 0 := by
  refine hp_walk (R0 := RX10) (by decide) rfl ?_ (Nat.le_of_ble_eq_true rfl)
  intro p e s m below meth c ls hx hb hr hts hown hlocks hin hml hZ hl
  have hP : hq_P cs G (fun _ => false) V V := hq_P.rf hI
  have hl : lv_has ls 1 [(0, .ref (t))] := hl
  refine hq_join (P := fun y => True) (f := fun y => F0 m 13 ls (.int y :: [])) (fun y1 hy2 => ?_) (fun jn13 => ?_)
  · have hy2 : True := hy2
    have b3 := hq_rng y1
    refine hq_join (P := fun y => True) (f := fun y => F0 m 27 ls (.int y :: [.int (y1)])) (fun y4 hy5 => ?_) (fun jn27 => ?_)
    · have hy5 : True := hy5
      have b6 := hq_rng y4
      refine lv_iadd hx hb dX10_changes_27 ?_
      refine lv_topi (fun y7 ey8 => ?_)
      obtain ⟨k9, hk10, b11, b12⟩ := hq_add (y1) (y4)
      rw [← ey8] at hk10 b11 b12
      have hk10 : (y7).toInt = (y1).toInt + (y4).toInt + k9 * 4294967296 := hk10
      refine hq_join (P := fun y => True) (f := fun y => F0 m 42 ls (.int y :: [.int (y7)])) (fun y13 hy14 => ?_) (fun jn42 => ?_)
      · have hy14 : True := hy14
        have b15 := hq_rng y13
        refine lv_iadd hx hb dX10_changes_42 ?_
        refine lv_topi (fun y16 ey17 => ?_)
        obtain ⟨k18, hk19, b20, b21⟩ := hq_add (y7) (y13)
        rw [← ey17] at hk19 b20 b21
        have hk19 : (y16).toInt = (y7).toInt + (y13).toInt + k18 * 4294967296 := hk19
        refine hq_join (P := fun y => True) (f := fun y => F0 m 56 ls (.int y :: [.int (y16)])) (fun y22 hy23 => ?_) (fun jn56 => ?_)
        · have hy23 : True := hy23
          have b24 := hq_rng y22
          refine lv_iadd hx hb dX10_changes_56 ?_
          refine lv_topi (fun y25 ey26 => ?_)
          obtain ⟨k27, hk28, b29, b30⟩ := hq_add (y16) (y22)
          rw [← ey26] at hk28 b29 b30
          have hk28 : (y25).toInt = (y16).toInt + (y22).toInt + k27 * 4294967296 := hk28
          refine hq_join (P := fun y => True) (f := fun y => F0 m 70 ls (.int y :: [.int (y25)])) (fun y31 hy32 => ?_) (fun jn70 => ?_)
          · have hy32 : True := hy32
            have b33 := hq_rng y31
            refine lv_iadd hx hb dX10_changes_70 ?_
            refine lv_topi (fun y34 ey35 => ?_)
            obtain ⟨k36, hk37, b38, b39⟩ := hq_add (y25) (y31)
            rw [← ey35] at hk37 b38 b39
            have hk37 : (y34).toInt = (y25).toInt + (y31).toInt + k36 * 4294967296 := hk37
            exact hp_iret hx hb hr hlocks hZ ⟨rfl, hP, trivial⟩ dX10_changes_71
          ·
            refine lv_aload_n hx hb dX10_changes_57 rfl (lv_at hl 0 rfl) ?_
            obtain ⟨z41, z42, z43, z44, z45, z46, z47, eV40, h48, h49⟩ := hq_o13 hP.1 h_t
            refine hp_get (v := .int (z47)) hx hb hts hown hZ eV40 fl_X10_30 rfl dX10_changes_58 ?_
            refine lv_iconst (v := -1) hx hb dX10_changes_61 (by decide) ?_
            refine lv_icmp_ne (tgt := 69) hx hb dX10_changes_62 (by decide) (fun c50 => ?_) (fun c50 => ?_)
            · have c50 : ¬ (z47).toInt = (-1 : Int) := fun h9 => c50 (hq_eqi.mpr h9)
              refine lv_iconst (v := 1) hx hb dX10_changes_69 (by decide) ?_
              exact jn70 _ trivial
            · have c50 : (z47).toInt = (-1 : Int) := hq_eqi.mp c50
              refine lv_iconst (v := 0) hx hb dX10_changes_65 (by decide) ?_
              refine lv_goto (tgt := 70) hx hb dX10_changes_66 (by decide) ?_
              exact jn70 _ trivial
        ·
          refine lv_aload_n hx hb dX10_changes_43 rfl (lv_at hl 0 rfl) ?_
          obtain ⟨z52, z53, z54, z55, z56, z57, z58, eV51, h59, h60⟩ := hq_o13 hP.1 h_t
          refine hp_get (v := .int (z57)) hx hb hts hown hZ eV51 fl_X10_27 rfl dX10_changes_44 ?_
          refine lv_iconst (v := -1) hx hb dX10_changes_47 (by decide) ?_
          refine lv_icmp_ne (tgt := 55) hx hb dX10_changes_48 (by decide) (fun c61 => ?_) (fun c61 => ?_)
          · have c61 : ¬ (z57).toInt = (-1 : Int) := fun h9 => c61 (hq_eqi.mpr h9)
            refine lv_iconst (v := 1) hx hb dX10_changes_55 (by decide) ?_
            exact jn56 _ trivial
          · have c61 : (z57).toInt = (-1 : Int) := hq_eqi.mp c61
            refine lv_iconst (v := 0) hx hb dX10_changes_51 (by decide) ?_
            refine lv_goto (tgt := 56) hx hb dX10_changes_52 (by decide) ?_
            exact jn56 _ trivial
      ·
        refine lv_aload_n hx hb dX10_changes_28 rfl (lv_at hl 0 rfl) ?_
        obtain ⟨z63, z64, z65, z66, z67, z68, z69, eV62, h70, h71⟩ := hq_o13 hP.1 h_t
        refine hp_get (v := .int (z67)) hx hb hts hown hZ eV62 fl_X10_24 rfl dX10_changes_29 ?_
        refine lv_bipush (v := -2) hx hb dX10_changes_32 (by decide) ?_
        refine lv_icmp_ne (tgt := 41) hx hb dX10_changes_34 (by decide) (fun c72 => ?_) (fun c72 => ?_)
        · have c72 : ¬ (z67).toInt = (-2 : Int) := fun h9 => c72 (hq_eqi.mpr h9)
          refine lv_iconst (v := 1) hx hb dX10_changes_41 (by decide) ?_
          exact jn42 _ trivial
        · have c72 : (z67).toInt = (-2 : Int) := hq_eqi.mp c72
          refine lv_iconst (v := 0) hx hb dX10_changes_37 (by decide) ?_
          refine lv_goto (tgt := 42) hx hb dX10_changes_38 (by decide) ?_
          exact jn42 _ trivial
    ·
      refine lv_aload_n hx hb dX10_changes_13 rfl (lv_at hl 0 rfl) ?_
      obtain ⟨z74, z75, z76, z77, z78, z79, z80, eV73, h81, h82⟩ := hq_o13 hP.1 h_t
      refine hp_get (v := .int (z77)) hx hb hts hown hZ eV73 fl_X10_21 rfl dX10_changes_14 ?_
      refine lv_bipush (v := -2) hx hb dX10_changes_17 (by decide) ?_
      refine lv_icmp_ne (tgt := 26) hx hb dX10_changes_19 (by decide) (fun c83 => ?_) (fun c83 => ?_)
      · have c83 : ¬ (z77).toInt = (-2 : Int) := fun h9 => c83 (hq_eqi.mpr h9)
        refine lv_iconst (v := 1) hx hb dX10_changes_26 (by decide) ?_
        exact jn27 _ trivial
      · have c83 : (z77).toInt = (-2 : Int) := hq_eqi.mp c83
        refine lv_iconst (v := 0) hx hb dX10_changes_22 (by decide) ?_
        refine lv_goto (tgt := 27) hx hb dX10_changes_23 (by decide) ?_
        exact jn27 _ trivial
  ·
    refine lv_aload_n hx hb dX10_changes_0 rfl (lv_at hl 0 rfl) ?_
    obtain ⟨z85, z86, z87, z88, z89, z90, z91, eV84, h92, h93⟩ := hq_o13 hP.1 h_t
    refine hp_get (v := .int (z85)) hx hb hts hown hZ eV84 fl_X10_9 rfl dX10_changes_1 ?_
    refine lv_iconst (v := -1) hx hb dX10_changes_4 (by decide) ?_
    refine lv_icmp_ne (tgt := 12) hx hb dX10_changes_5 (by decide) (fun c94 => ?_) (fun c94 => ?_)
    · have c94 : ¬ (z85).toInt = (-1 : Int) := fun h9 => c94 (hq_eqi.mpr h9)
      refine lv_iconst (v := 1) hx hb dX10_changes_12 (by decide) ?_
      exact jn13 _ trivial
    · have c94 : (z85).toInt = (-1 : Int) := hq_eqi.mp c94
      refine lv_iconst (v := 0) hx hb dX10_changes_8 (by decide) ?_
      refine lv_goto (tgt := 13) hx hb dX10_changes_9 (by decide) ?_
      exact jn13 _ trivial

set_option maxHeartbeats 4000000 in
set_option maxRecDepth 100000 in
theorem t_X10_cost (l : Launch) (D : va_G) (cs : Nat → ClassId) (B : Nat) (G : hq_G) (V : hp_V) (n : Nat) (hI : hq_I cs G V) (t : Nat) (h_t : G t = some (13, 0, 0, 0)) : hp_M l yX10_cost cX10_cost 1 (some .int) ({ frames := 1, cells := 0, slots := 0, locals := 21 }) D cs B V n [.ref (t)] (hp_QI D cs B (fun r V' n' => n = n' ∧ hq_P cs G (fun _ => false) V V' ∧ True)) 0 0 := by
  refine hp_walk (R0 := RX10) (by decide) rfl ?_ (Nat.le_of_ble_eq_true rfl)
  intro p e s m below meth c ls hx hb hr hts hown hlocks hin hml hZ hl
  have hP : hq_P cs G (fun _ => false) V V := hq_P.rf hI
  have hl : lv_has ls 1 [(0, .ref (t))] := hl
  refine hq_join (P := fun y => True) (f := fun y => F0 m 13 ls (.int y :: [])) (fun y1 hy2 => ?_) (fun jn13 => ?_)
  · have hy2 : True := hy2
    have b3 := hq_rng y1
    refine hq_join (P := fun y => True) (f := fun y => F0 m 39 ls (.int y :: [.int (y1)])) (fun y4 hy5 => ?_) (fun jn39 => ?_)
    · have hy5 : True := hy5
      have b6 := hq_rng y4
      refine lv_iadd hx hb dX10_cost_39 ?_
      refine lv_topi (fun y7 ey8 => ?_)
      obtain ⟨k9, hk10, b11, b12⟩ := hq_add (y1) (y4)
      rw [← ey8] at hk10 b11 b12
      have hk10 : (y7).toInt = (y1).toInt + (y4).toInt + k9 * 4294967296 := hk10
      refine hq_join (P := fun y => True) (f := fun y => F0 m 67 ls (.int y :: [.int (y7)])) (fun y13 hy14 => ?_) (fun jn67 => ?_)
      · have hy14 : True := hy14
        have b15 := hq_rng y13
        refine lv_iadd hx hb dX10_cost_67 ?_
        refine lv_topi (fun y16 ey17 => ?_)
        obtain ⟨k18, hk19, b20, b21⟩ := hq_add (y7) (y13)
        rw [← ey17] at hk19 b20 b21
        have hk19 : (y16).toInt = (y7).toInt + (y13).toInt + k18 * 4294967296 := hk19
        refine hq_join (P := fun y => True) (f := fun y => F0 m 81 ls (.int y :: [.int (y16)])) (fun y22 hy23 => ?_) (fun jn81 => ?_)
        · have hy23 : True := hy23
          have b24 := hq_rng y22
          refine lv_iadd hx hb dX10_cost_81 ?_
          refine lv_topi (fun y25 ey26 => ?_)
          obtain ⟨k27, hk28, b29, b30⟩ := hq_add (y16) (y22)
          rw [← ey26] at hk28 b29 b30
          have hk28 : (y25).toInt = (y16).toInt + (y22).toInt + k27 * 4294967296 := hk28
          refine hq_join (P := fun y => True) (f := fun y => F0 m 95 ls (.int y :: [.int (y25)])) (fun y31 hy32 => ?_) (fun jn95 => ?_)
          · have hy32 : True := hy32
            have b33 := hq_rng y31
            refine lv_iadd hx hb dX10_cost_95 ?_
            refine lv_topi (fun y34 ey35 => ?_)
            obtain ⟨k36, hk37, b38, b39⟩ := hq_add (y25) (y31)
            rw [← ey35] at hk37 b38 b39
            have hk37 : (y34).toInt = (y25).toInt + (y31).toInt + k36 * 4294967296 := hk37
            exact hp_iret hx hb hr hlocks hZ ⟨rfl, hP, trivial⟩ dX10_cost_96
          ·
            refine lv_aload_n hx hb dX10_cost_82 rfl (lv_at hl 0 rfl) ?_
            obtain ⟨z41, z42, z43, z44, z45, z46, z47, eV40, h48, h49⟩ := hq_o13 hP.1 h_t
            refine hp_get (v := .int (z47)) hx hb hts hown hZ eV40 fl_X10_30 rfl dX10_cost_83 ?_
            refine lv_iconst (v := -1) hx hb dX10_cost_86 (by decide) ?_
            refine lv_icmp_ne (tgt := 94) hx hb dX10_cost_87 (by decide) (fun c50 => ?_) (fun c50 => ?_)
            · have c50 : ¬ (z47).toInt = (-1 : Int) := fun h9 => c50 (hq_eqi.mpr h9)
              refine lv_iconst (v := 2) hx hb dX10_cost_94 (by decide) ?_
              exact jn95 _ trivial
            · have c50 : (z47).toInt = (-1 : Int) := hq_eqi.mp c50
              refine lv_iconst (v := 0) hx hb dX10_cost_90 (by decide) ?_
              refine lv_goto (tgt := 95) hx hb dX10_cost_91 (by decide) ?_
              exact jn95 _ trivial
        ·
          refine lv_aload_n hx hb dX10_cost_68 rfl (lv_at hl 0 rfl) ?_
          obtain ⟨z52, z53, z54, z55, z56, z57, z58, eV51, h59, h60⟩ := hq_o13 hP.1 h_t
          refine hp_get (v := .int (z57)) hx hb hts hown hZ eV51 fl_X10_27 rfl dX10_cost_69 ?_
          refine lv_iconst (v := -1) hx hb dX10_cost_72 (by decide) ?_
          refine lv_icmp_ne (tgt := 80) hx hb dX10_cost_73 (by decide) (fun c61 => ?_) (fun c61 => ?_)
          · have c61 : ¬ (z57).toInt = (-1 : Int) := fun h9 => c61 (hq_eqi.mpr h9)
            refine lv_iconst (v := 2) hx hb dX10_cost_80 (by decide) ?_
            exact jn81 _ trivial
          · have c61 : (z57).toInt = (-1 : Int) := hq_eqi.mp c61
            refine lv_iconst (v := 0) hx hb dX10_cost_76 (by decide) ?_
            refine lv_goto (tgt := 81) hx hb dX10_cost_77 (by decide) ?_
            exact jn81 _ trivial
      ·
        refine lv_aload_n hx hb dX10_cost_40 rfl (lv_at hl 0 rfl) ?_
        obtain ⟨z63, z64, z65, z66, z67, z68, z69, eV62, h70, h71⟩ := hq_o13 hP.1 h_t
        refine hp_get (v := .int (z67)) hx hb hts hown hZ eV62 fl_X10_24 rfl dX10_cost_41 ?_
        refine lv_bipush (v := -2) hx hb dX10_cost_44 (by decide) ?_
        refine lv_icmp_ne (tgt := 53) hx hb dX10_cost_46 (by decide) (fun c72 => ?_) (fun c72 => ?_)
        · have c72 : ¬ (z67).toInt = (-2 : Int) := fun h9 => c72 (hq_eqi.mpr h9)
          refine lv_aload_n hx hb dX10_cost_53 rfl (lv_at hl 0 rfl) ?_
          refine hp_get (v := .int (z67)) hx hb hts hown hZ eV62 fl_X10_24 rfl dX10_cost_54 ?_
          refine lv_bipush (v := 60) hx hb dX10_cost_57 (by decide) ?_
          refine lv_icmp_ne (tgt := 66) hx hb dX10_cost_59 (by decide) (fun c73 => ?_) (fun c73 => ?_)
          · have c73 : ¬ (z67).toInt = (60 : Int) := fun h9 => c73 (hq_eqi.mpr h9)
            refine lv_iconst (v := 3) hx hb dX10_cost_66 (by decide) ?_
            exact jn67 _ trivial
          · have c73 : (z67).toInt = (60 : Int) := hq_eqi.mp c73
            refine lv_iconst (v := 4) hx hb dX10_cost_62 (by decide) ?_
            refine lv_goto (tgt := 67) hx hb dX10_cost_63 (by decide) ?_
            exact jn67 _ trivial
        · have c72 : (z67).toInt = (-2 : Int) := hq_eqi.mp c72
          refine lv_iconst (v := 0) hx hb dX10_cost_49 (by decide) ?_
          refine lv_goto (tgt := 67) hx hb dX10_cost_50 (by decide) ?_
          exact jn67 _ trivial
    ·
      refine lv_aload_n hx hb dX10_cost_13 rfl (lv_at hl 0 rfl) ?_
      obtain ⟨z75, z76, z77, z78, z79, z80, z81, eV74, h82, h83⟩ := hq_o13 hP.1 h_t
      refine hp_get (v := .int (z78)) hx hb hts hown hZ eV74 fl_X10_21 rfl dX10_cost_14 ?_
      refine lv_bipush (v := -2) hx hb dX10_cost_17 (by decide) ?_
      refine lv_icmp_ne (tgt := 26) hx hb dX10_cost_19 (by decide) (fun c84 => ?_) (fun c84 => ?_)
      · have c84 : ¬ (z78).toInt = (-2 : Int) := fun h9 => c84 (hq_eqi.mpr h9)
        refine lv_aload_n hx hb dX10_cost_26 rfl (lv_at hl 0 rfl) ?_
        refine hp_get (v := .int (z78)) hx hb hts hown hZ eV74 fl_X10_21 rfl dX10_cost_27 ?_
        refine lv_iconst (v := -1) hx hb dX10_cost_30 (by decide) ?_
        refine lv_icmp_ne (tgt := 38) hx hb dX10_cost_31 (by decide) (fun c85 => ?_) (fun c85 => ?_)
        · have c85 : ¬ (z78).toInt = (-1 : Int) := fun h9 => c85 (hq_eqi.mpr h9)
          refine lv_iconst (v := 3) hx hb dX10_cost_38 (by decide) ?_
          exact jn39 _ trivial
        · have c85 : (z78).toInt = (-1 : Int) := hq_eqi.mp c85
          refine lv_iconst (v := 2) hx hb dX10_cost_34 (by decide) ?_
          refine lv_goto (tgt := 39) hx hb dX10_cost_35 (by decide) ?_
          exact jn39 _ trivial
      · have c84 : (z78).toInt = (-2 : Int) := hq_eqi.mp c84
        refine lv_iconst (v := 0) hx hb dX10_cost_22 (by decide) ?_
        refine lv_goto (tgt := 39) hx hb dX10_cost_23 (by decide) ?_
        exact jn39 _ trivial
  ·
    refine lv_aload_n hx hb dX10_cost_0 rfl (lv_at hl 0 rfl) ?_
    obtain ⟨z87, z88, z89, z90, z91, z92, z93, eV86, h94, h95⟩ := hq_o13 hP.1 h_t
    refine hp_get (v := .int (z87)) hx hb hts hown hZ eV86 fl_X10_9 rfl dX10_cost_1 ?_
    refine lv_iconst (v := -1) hx hb dX10_cost_4 (by decide) ?_
    refine lv_icmp_ne (tgt := 12) hx hb dX10_cost_5 (by decide) (fun c96 => ?_) (fun c96 => ?_)
    · have c96 : ¬ (z87).toInt = (-1 : Int) := fun h9 => c96 (hq_eqi.mpr h9)
      refine lv_iconst (v := 2) hx hb dX10_cost_12 (by decide) ?_
      exact jn13 _ trivial
    · have c96 : (z87).toInt = (-1 : Int) := hq_eqi.mp c96
      refine lv_iconst (v := 0) hx hb dX10_cost_8 (by decide) ?_
      refine lv_goto (tgt := 13) hx hb dX10_cost_9 (by decide) ?_
      exact jn13 _ trivial

set_option maxHeartbeats 4000000 in
set_option maxRecDepth 100000 in
theorem t_X11_placeOf (l : Launch) (D : va_G) (cs : Nat → ClassId) (B : Nat) (G : hq_G) (V : hp_V) (n : Nat) (hI : hq_I cs G V) (v : Int32) (te : Int32) (pe : Int32) : hp_M l yX11_placeOf cX11_placeOf 3 (some .int) ({ frames := 1, cells := 0, slots := 0, locals := 21 }) D cs B V n [.int (v), .int (te), .int (pe)] (hp_QI D cs B (fun r V' n' => n = n' ∧ hq_P cs G (fun _ => false) V V' ∧ True)) 0 0 := by
  refine hp_walk (R0 := RX11) (by decide) rfl ?_ (Nat.le_of_ble_eq_true rfl)
  intro p e s m below meth c ls hx hb hr hts hown hlocks hin hml hZ hl
  have hP : hq_P cs G (fun _ => false) V V := hq_P.rf hI
  have hl : lv_has ls 3 [(0, .int (v)), (1, .int (te)), (2, .int (pe))] := hl
  have hb_v := hq_rng v
  have hb_te := hq_rng te
  have hb_pe := hq_rng pe
  refine lv_iload_n hx hb dX11_placeOf_0 rfl (lv_at hl 0 rfl) ?_
  refine lv_bipush (v := 30) hx hb dX11_placeOf_1 (by decide) ?_
  refine lv_imul hx hb dX11_placeOf_3 ?_
  refine lv_topi (fun y1 ey2 => ?_)
  obtain ⟨k3, hk4, b5, b6⟩ := hq_mul (v) (30)
  rw [← ey2] at hk4 b5 b6
  have hk4 : (y1).toInt = (v).toInt * (30 : Int) + k3 * 4294967296 := hk4
  refine lv_iload_n hx hb dX11_placeOf_4 rfl (lv_at hl 1 rfl) ?_
  refine lv_bipush (v := 6) hx hb dX11_placeOf_5 (by decide) ?_
  refine lv_imul hx hb dX11_placeOf_7 ?_
  refine lv_topi (fun y7 ey8 => ?_)
  obtain ⟨k9, hk10, b11, b12⟩ := hq_mul (te) (6)
  rw [← ey8] at hk10 b11 b12
  have hk10 : (y7).toInt = (te).toInt * (6 : Int) + k9 * 4294967296 := hk10
  refine lv_iadd hx hb dX11_placeOf_8 ?_
  refine lv_topi (fun y13 ey14 => ?_)
  obtain ⟨k15, hk16, b17, b18⟩ := hq_add (y1) (y7)
  rw [← ey14] at hk16 b17 b18
  have hk16 : (y13).toInt = (y1).toInt + (y7).toInt + k15 * 4294967296 := hk16
  refine lv_iload_n hx hb dX11_placeOf_9 rfl (lv_at hl 2 rfl) ?_
  refine lv_iadd hx hb dX11_placeOf_10 ?_
  refine lv_topi (fun y19 ey20 => ?_)
  obtain ⟨k21, hk22, b23, b24⟩ := hq_add (y13) (pe)
  rw [← ey20] at hk22 b23 b24
  have hk22 : (y19).toInt = (y13).toInt + (pe).toInt + k21 * 4294967296 := hk22
  exact hp_iret hx hb hr hlocks hZ ⟨rfl, hP, trivial⟩ dX11_placeOf_11

set_option maxHeartbeats 4000000 in
set_option maxRecDepth 100000 in
theorem t_X11_verbOf (l : Launch) (D : va_G) (cs : Nat → ClassId) (B : Nat) (G : hq_G) (V : hp_V) (n : Nat) (hI : hq_I cs G V) (k : Int32) (hk0 : 0 ≤ k.toInt) (hk1 : k.toInt < 900) : hp_M l yX11_verbOf cX11_verbOf 1 (some .int) ({ frames := 1, cells := 0, slots := 0, locals := 21 }) D cs B V n [.int (k)] (hp_QI D cs B (fun r V' n' => n = n' ∧ hq_P cs G (fun _ => false) V V' ∧ (0 ≤ r.toInt ∧ r.toInt < 30))) 0 0 := by
  refine hp_walk (R0 := RX11) (by decide) rfl ?_ (Nat.le_of_ble_eq_true rfl)
  intro p e s m below meth c ls hx hb hr hts hown hlocks hin hml hZ hl
  have hP : hq_P cs G (fun _ => false) V V := hq_P.rf hI
  have hl : lv_has ls 1 [(0, .int (k))] := hl
  have hb_k := hq_rng k
  refine lv_iload_n hx hb dX11_verbOf_0 rfl (lv_at hl 0 rfl) ?_
  refine lv_bipush (v := 30) hx hb dX11_verbOf_1 (by decide) ?_
  refine lv_idiv hx hb dX11_verbOf_3 (by decide) ?_
  refine lv_topi (fun y1 ey2 => ?_)
  have b3 : (y1).toInt = (k).toInt / 30 := by rw [ey2]; exact hq_divp k 30 (by omega) (by decide)
  exact hp_iret hx hb hr hlocks hZ ⟨rfl, hP, (by constructor <;> omega)⟩ dX11_verbOf_4

set_option maxHeartbeats 4000000 in
set_option maxRecDepth 100000 in
theorem t_X11_tenseOf (l : Launch) (D : va_G) (cs : Nat → ClassId) (B : Nat) (G : hq_G) (V : hp_V) (n : Nat) (hI : hq_I cs G V) (k : Int32) (hk0 : 0 ≤ k.toInt) (hk1 : k.toInt < 900) : hp_M l yX11_tenseOf cX11_tenseOf 1 (some .int) ({ frames := 1, cells := 0, slots := 0, locals := 21 }) D cs B V n [.int (k)] (hp_QI D cs B (fun r V' n' => n = n' ∧ hq_P cs G (fun _ => false) V V' ∧ True)) 0 0 := by
  refine hp_walk (R0 := RX11) (by decide) rfl ?_ (Nat.le_of_ble_eq_true rfl)
  intro p e s m below meth c ls hx hb hr hts hown hlocks hin hml hZ hl
  have hP : hq_P cs G (fun _ => false) V V := hq_P.rf hI
  have hl : lv_has ls 1 [(0, .int (k))] := hl
  have hb_k := hq_rng k
  refine lv_iload_n hx hb dX11_tenseOf_0 rfl (lv_at hl 0 rfl) ?_
  refine lv_bipush (v := 30) hx hb dX11_tenseOf_1 (by decide) ?_
  refine lv_irem hx hb dX11_tenseOf_3 (by decide) ?_
  refine lv_topi (fun y1 ey2 => ?_)
  have b3 : (y1).toInt = (k).toInt % 30 := by rw [ey2]; exact hq_remp k 30 (by omega) (by decide)
  refine lv_bipush (v := 6) hx hb dX11_tenseOf_4 (by decide) ?_
  refine lv_idiv hx hb dX11_tenseOf_6 (by decide) ?_
  refine lv_topi (fun y4 ey5 => ?_)
  have b6 : (y4).toInt = (y1).toInt / 6 := by rw [ey5]; exact hq_divp y1 6 (by omega) (by decide)
  exact hp_iret hx hb hr hlocks hZ ⟨rfl, hP, trivial⟩ dX11_tenseOf_7

set_option maxHeartbeats 4000000 in
set_option maxRecDepth 100000 in
theorem t_X11_personOf (l : Launch) (D : va_G) (cs : Nat → ClassId) (B : Nat) (G : hq_G) (V : hp_V) (n : Nat) (hI : hq_I cs G V) (k : Int32) (hk0 : 0 ≤ k.toInt) (hk1 : k.toInt < 900) : hp_M l yX11_personOf cX11_personOf 1 (some .int) ({ frames := 1, cells := 0, slots := 0, locals := 21 }) D cs B V n [.int (k)] (hp_QI D cs B (fun r V' n' => n = n' ∧ hq_P cs G (fun _ => false) V V' ∧ True)) 0 0 := by
  refine hp_walk (R0 := RX11) (by decide) rfl ?_ (Nat.le_of_ble_eq_true rfl)
  intro p e s m below meth c ls hx hb hr hts hown hlocks hin hml hZ hl
  have hP : hq_P cs G (fun _ => false) V V := hq_P.rf hI
  have hl : lv_has ls 1 [(0, .int (k))] := hl
  have hb_k := hq_rng k
  refine lv_iload_n hx hb dX11_personOf_0 rfl (lv_at hl 0 rfl) ?_
  refine lv_bipush (v := 6) hx hb dX11_personOf_1 (by decide) ?_
  refine lv_irem hx hb dX11_personOf_3 (by decide) ?_
  refine lv_topi (fun y1 ey2 => ?_)
  have b3 : (y1).toInt = (k).toInt % 6 := by rw [ey2]; exact hq_remp k 6 (by omega) (by decide)
  exact hp_iret hx hb hr hlocks hZ ⟨rfl, hP, trivial⟩ dX11_personOf_4

set_option maxHeartbeats 4000000 in
set_option maxRecDepth 100000 in
theorem t_X11_isLearner (l : Launch) (D : va_G) (cs : Nat → ClassId) (B : Nat) (G : hq_G) (V : hp_V) (n : Nat) (hI : hq_I cs G V) (k : Int32) : hp_M l yX11_isLearner cX11_isLearner 1 (some .boolean) ({ frames := 1, cells := 0, slots := 0, locals := 21 }) D cs B V n [.int (k)] (hp_QI D cs B (fun r V' n' => n = n' ∧ hq_P cs G (fun _ => false) V V' ∧ (r.toInt = 0 ∨ (r.toInt = 1 ∧ 0 ≤ k.toInt ∧ k.toInt < 8)))) 0 0 := by
  refine hp_walk (R0 := RX11) (by decide) rfl ?_ (Nat.le_of_ble_eq_true rfl)
  intro p e s m below meth c ls hx hb hr hts hown hlocks hin hml hZ hl
  have hP : hq_P cs G (fun _ => false) V V := hq_P.rf hI
  have hl : lv_has ls 1 [(0, .int (k))] := hl
  have hb_k := hq_rng k
  refine lv_iload_n hx hb dX11_isLearner_0 rfl (lv_at hl 0 rfl) ?_
  refine lv_if_lt (tgt := 14) hx hb dX11_isLearner_1 (by decide) (fun c1 => ?_) (fun c1 => ?_)
  · have c1 : (k).toInt < (0 : Int) := hq_lti.mp c1
    refine lv_iconst (v := 0) hx hb dX11_isLearner_14 (by decide) ?_
    exact hp_zret hx hb hr rfl hlocks hZ ⟨rfl, hP, (Or.inl (by decide))⟩ dX11_isLearner_15
  · have c1 : ¬ (k).toInt < (0 : Int) := fun h9 => c1 (hq_lti.mpr h9)
    refine lv_iload_n hx hb dX11_isLearner_4 rfl (lv_at hl 0 rfl) ?_
    refine lv_bipush (v := 8) hx hb dX11_isLearner_5 (by decide) ?_
    refine lv_icmp_ge (tgt := 14) hx hb dX11_isLearner_7 (by decide) (fun c2 => ?_) (fun c2 => ?_)
    · have c2 : (8 : Int) ≤ (k).toInt := hq_lei.mp c2
      refine lv_iconst (v := 0) hx hb dX11_isLearner_14 (by decide) ?_
      exact hp_zret hx hb hr rfl hlocks hZ ⟨rfl, hP, (Or.inl (by decide))⟩ dX11_isLearner_15
    · have c2 : ¬ (8 : Int) ≤ (k).toInt := fun h9 => c2 (hq_lei.mpr h9)
      refine lv_iconst (v := 1) hx hb dX11_isLearner_10 (by decide) ?_
      refine lv_goto (tgt := 15) hx hb dX11_isLearner_11 (by decide) ?_
      exact hp_zret hx hb hr rfl hlocks hZ ⟨rfl, hP, (Or.inr ⟨by decide, by omega, by omega⟩)⟩ dX11_isLearner_15

set_option maxHeartbeats 4000000 in
set_option maxRecDepth 100000 in
theorem t_X8_look (l : Launch) (D : va_G) (cs : Nat → ClassId) (B : Nat) (G : hq_G) (V : hp_V) (n : Nat) (hI : hq_I cs G V) (b : Nat) (t : Nat) (h_t : G t = some (12, 0, 0, 0)) (u : Nat) (h_u : G u = some (6, b, 0, 0)) (mk : Nat) (h_mk : G mk = some (11, 0, 0, 0)) (hJ : hq_J cs V u) : hp_M l yX8_look cX8_look 4 none ({ frames := 7, cells := 0, slots := 0, locals := 177 }) D cs B V n [.ref (t), .ref (u), .ref (mk)] (hp_QV D cs B (fun V' n' => n = n' ∧ hq_P cs G (fun g => g.1 == 0 || g.1 == 5 || g.1 == 6 || g.1 == 7) V V')) 0 0 := by
  refine hp_walk (R0 := RX8) (by decide) rfl ?_ (Nat.le_of_ble_eq_true rfl)
  intro p e s m below meth c ls hx hb hr hts hown hlocks hin hml hZ hl
  have hP : hq_P cs G (fun g => g.1 == 0 || g.1 == 5 || g.1 == 6 || g.1 == 7) V V := hq_P.rf hI
  have hl : lv_has ls 4 [(0, .ref (t)), (1, .ref (u)), (2, .ref (mk))] := hl
  refine lv_aload_n hx hb dX8_look_0 rfl (lv_at hl 0 rfl) ?_
  obtain ⟨z2, u3, u4, u5, eV1, hu6, hu7, hu8⟩ := hq_o12 hP.1 h_t
  refine hp_get (v := .int (z2)) hx hb hts hown hZ eV1 fl_X8_21 rfl dX8_look_1 ?_
  refine lv_if_eq (tgt := 8) hx hb dX8_look_4 (by decide) (fun c9 => ?_) (fun c9 => ?_)
  · have c9 : (z2).toInt = (0 : Int) := hq_eqi.mp c9
    refine lv_iconst (v := 0) hx hb dX8_look_8 (by decide) ?_
    refine lv_istore_n (lv' := [(3, .int (0)), (0, .ref (t)), (1, .ref (u)), (2, .ref (mk))]) hx hb dX8_look_9 rfl hl (by decide) rfl (fun ls hl => ?_)
    have hl10 : (0 : Int32).toInt = 0 := by decide
    suffices lp10 : ∀ (k9 : Nat) (V9 : hp_V) (H9 : Heap) (locs9 : List Loc) (ls : Array Slot) (i : Int32), (1000 - i.toInt).toNat = k9 → hp_Z D cs B s V9 H9 n locs9 → hq_P cs G (fun g => g.1 == 0 || g.1 == 5 || g.1 == 6 || g.1 == 7) V V9 → 0 ≤ i.toInt → i.toInt ≤ 900 → lv_has ls 4 [(3, .int (i)), (0, .ref (t)), (1, .ref (u)), (2, .ref (mk))] → W p l e ({ frames := 7, cells := 0, slots := 0, locals := 177 }) s m ([.ref (t), .ref (u), .ref (mk)] : List Value).toArray below meth c H9 locs9 0 0 (MQ below (hp_QV D cs B (fun V' n' => n = n' ∧ hq_P cs G (fun g => g.1 == 0 || g.1 == 5 || g.1 == 6 || g.1 == 7) V V')) ([.ref (t), .ref (u), .ref (mk)] : List Value).toArray s 0 0 (hp_F B)) (F0 m 10 ls []) from lp10 _ _ _ _ ls (0) rfl hZ hP (by omega) (by omega) (lv_sub hl [0, 1, 2, 3] rfl)
    intro k9
    induction k9 using Nat.strongRecOn with
    | _ k9 ih10 =>
      intro V9 H9 locs9 ls i  hk10 hZ hP  hv11 hv12 hl
      have hb_i := hq_rng i
      have hP_10 := hP
      refine lv_iload_n hx hb dX8_look_10 rfl (lv_at hl 0 rfl) ?_
      refine lv_aload_n hx hb dX8_look_11 rfl (lv_at hl 2 rfl) ?_
      obtain ⟨u20, u21, u22, u23, z24, z25, z26, eV19, hu27, hu28, hu29, hu30, ⟨h31, h32⟩, ⟨h33, h34⟩, h35, h36⟩ := hq_o6 hP.1 h_u
      refine hp_calli (hp_runV (As := []) (rest := [.int (i)]) hx hb hml hown hts (t_X0_placeSize l D cs B G  V9 n hP.1 _ (u) h_u ) hZ eV19 cv_X8_25 rfl rfl ⟨Nat.le_of_ble_eq_true rfl, Nat.le_of_ble_eq_true rfl⟩ rfl hl.1 rfl (Nat.le_of_ble_eq_true rfl) dX8_look_12 ⟨(Nat.le_of_ble_eq_true rfl), (Nat.le_of_ble_eq_true rfl)⟩) hZ (fun r16 V13 n14 _ _ hw15 hZ => ?_)
      obtain ⟨rfl, hq17, hr18⟩ := hw15
      have hP := hP.trans hq17 (fun _ _ => rfl)
      have b37 := hq_rng r16
      refine lv_icmp_ge (tgt := 50) hx hb dX8_look_15 (by decide) (fun c38 => ?_) (fun c38 => ?_)
      · have c38 : (r16).toInt ≤ (i).toInt := hq_lei.mp c38
        refine lv_aload_n hx hb dX8_look_50 rfl (lv_at hl 1 rfl) ?_
        refine lv_iconst (v := 1) hx hb dX8_look_51 (by decide) ?_
        obtain ⟨z40, u41, u42, u43, eV39, hu44, hu45, hu46⟩ := hq_o12 hP.1 h_t
        refine hp_put hx hb hts hown hZ eV39 fp_X8_21 rfl rfl (Nat.le_of_ble_eq_true rfl) dX8_look_52 (fun V47 _ _ e48 o49 hZ => ?_)
        have e48 : V47 (t) = some (.inr (8, [.int (1), .ref (u41), .ref (u42), .ref (u43)])) := e48
        have hP := hP.put h_t e48 o49 (hq_c12 hu44 hu45 hu46) rfl
        exact hp_vret hx hb hr hlocks hZ ⟨rfl, hP⟩ dX8_look_55
      · have c38 : ¬ (r16).toInt ≤ (i).toInt := fun h9 => c38 (hq_lei.mpr h9)
        refine lv_aload_n hx hb dX8_look_18 rfl (lv_at hl 3 rfl) ?_
        refine lv_aload_n hx hb dX8_look_19 rfl (lv_at hl 2 rfl) ?_
        refine lv_iload_n hx hb dX8_look_20 rfl (lv_at hl 0 rfl) ?_
        refine hp_calli (hp_runSN (As := [.int (i)]) (rest := [.ref (u), .ref (mk)]) hx hb hml hown hts (t_X11_verbOf l D cs B G  V13 n hP.1  (i) (by omega) (by omega)) hZ cv_X8_31 rfl rfl ⟨Nat.le_of_ble_eq_true rfl, Nat.le_of_ble_eq_true rfl⟩ rfl hl.1 rfl (Nat.le_of_ble_eq_true rfl) dX8_look_21 ⟨(Nat.le_of_ble_eq_true rfl), (Nat.le_of_ble_eq_true rfl)⟩) hZ (fun r53 V50 n51 _ _ hw52 hZ => ?_)
        obtain ⟨rfl, hq54, hr55⟩ := hw52
        have hP := hP.trans hq54 (fun _ _ => rfl)
        have b56 := hq_rng r53
        refine lv_iload_n hx hb dX8_look_24 rfl (lv_at hl 0 rfl) ?_
        refine hp_calli (hp_runSN (As := [.int (i)]) (rest := [.int (r53), .ref (u), .ref (mk)]) hx hb hml hown hts (t_X11_tenseOf l D cs B G  V50 n hP.1  (i) (by omega) (by omega)) hZ cv_X8_35 rfl rfl ⟨Nat.le_of_ble_eq_true rfl, Nat.le_of_ble_eq_true rfl⟩ rfl hl.1 rfl (Nat.le_of_ble_eq_true rfl) dX8_look_25 ⟨(Nat.le_of_ble_eq_true rfl), (Nat.le_of_ble_eq_true rfl)⟩) hZ (fun r60 V57 n58 _ _ hw59 hZ => ?_)
        obtain ⟨rfl, hq61, hr62⟩ := hw59
        have hP := hP.trans hq61 (fun _ _ => rfl)
        have b63 := hq_rng r60
        refine lv_iload_n hx hb dX8_look_28 rfl (lv_at hl 0 rfl) ?_
        refine hp_calli (hp_runSN (As := [.int (i)]) (rest := [.int (r60), .int (r53), .ref (u), .ref (mk)]) hx hb hml hown hts (t_X11_personOf l D cs B G  V57 n hP.1  (i) (by omega) (by omega)) hZ cv_X8_38 rfl rfl ⟨Nat.le_of_ble_eq_true rfl, Nat.le_of_ble_eq_true rfl⟩ rfl hl.1 rfl (Nat.le_of_ble_eq_true rfl) dX8_look_29 ⟨(Nat.le_of_ble_eq_true rfl), (Nat.le_of_ble_eq_true rfl)⟩) hZ (fun r67 V64 n65 _ _ hw66 hZ => ?_)
        obtain ⟨rfl, hq68, hr69⟩ := hw66
        have hP := hP.trans hq68 (fun _ _ => rfl)
        have b70 := hq_rng r67
        obtain ⟨u78, u79, u80, u81, z82, eV77, hu83, hu84, hu85, hu86, h87, h88⟩ := hq_o11 hP.1 h_mk
        refine hp_callv (hp_runV (As := [.ref (u), .int (r53), .int (r60), .int (r67)]) (rest := []) hx hb hml hown hts (t_X6_makeAt l D cs B G  V64 n hP.1 _ (mk) h_mk (u) h_u (r53) (r60) (r67) (by omega) (by omega) (hJ.keep hP.1 h_u (hq_kp hP (by intro g h; simp [hq_lg] at h ⊢ <;> omega)))) hZ eV77 cv_X8_41 rfl rfl ⟨Nat.le_of_ble_eq_true rfl, Nat.le_of_ble_eq_true rfl⟩ rfl hl.1 rfl (Nat.le_of_ble_eq_true rfl) dX8_look_32 ⟨(Nat.le_of_ble_eq_true rfl), (Nat.le_of_ble_eq_true rfl)⟩) hZ (fun V71 n72 _ _ hw73 hZ => ?_)
        obtain ⟨rfl, hq75⟩ := hw73
        have hP := hP.trans hq75 (by intro g h; simp_all)
        refine lv_aload_n hx hb dX8_look_35 rfl (lv_at hl 1 rfl) ?_
        refine lv_iload_n hx hb dX8_look_36 rfl (lv_at hl 0 rfl) ?_
        refine lv_aload_n hx hb dX8_look_37 rfl (lv_at hl 3 rfl) ?_
        obtain ⟨u90, u91, u92, u93, z94, eV89, hu95, hu96, hu97, hu98, h99, h100⟩ := hq_o11 hP.1 h_mk
        refine hp_get (v := .ref (u90)) hx hb hts hown hZ eV89 fl_X8_47 rfl dX8_look_38 ?_
        obtain ⟨z108, u109, u110, u111, eV107, hu112, hu113, hu114⟩ := hq_o12 hP.1 h_t
        refine hp_callv (hp_runV (As := [.int (i), .ref (u90)]) (rest := []) hx hb hml hown hts (t_X8_note l D cs B G  V71 n hP.1 _ (t) h_t (i) (u90) hu95 (by omega) (by omega)) hZ eV107 cv_X8_51 rfl rfl ⟨Nat.le_of_ble_eq_true rfl, Nat.le_of_ble_eq_true rfl⟩ rfl hl.1 rfl (Nat.le_of_ble_eq_true rfl) dX8_look_41 ⟨(Nat.le_of_ble_eq_true rfl), (Nat.le_of_ble_eq_true rfl)⟩) hZ (fun V101 n102 _ _ hw103 hZ => ?_)
        obtain ⟨rfl, hq105⟩ := hw103
        have hP := hP.trans hq105 (by intro g h; simp_all)
        obtain ⟨y115, ey116⟩ : ∃ y : Int32, y = i + (1) := ⟨_, rfl⟩
        obtain ⟨k117, hk118, b119, b120⟩ := hq_add (i) (1)
        rw [← ey116] at hk118 b119 b120
        have hk118 : (y115).toInt = (i).toInt + (1) + k117 * 4294967296 := hk118
        refine lv_iinc (v := y115) (lv' := [(3, .int (y115)), (0, .ref (t)), (1, .ref (u)), (2, .ref (mk))]) hx hb dX8_look_44 hl (k := 0) rfl (by rw [ey116]; rfl) (by decide) rfl (fun ls hl => ?_)
        refine lv_goto (tgt := 10) hx hb dX8_look_47 (by decide) ?_
        exact ih10 _ (by omega) _ _ _ ls (y115) rfl hZ hP (by omega) (by omega) (lv_sub hl [0, 1, 2, 3] rfl)
  · have c9 : ¬ (z2).toInt = (0 : Int) := fun h9 => c9 (hq_eqi.mpr h9)
    exact hp_vret hx hb hr hlocks hZ ⟨rfl, hP⟩ dX8_look_7

set_option maxHeartbeats 4000000 in
set_option maxRecDepth 100000 in
theorem t_X1_forget (l : Launch) (D : va_G) (cs : Nat → ClassId) (B : Nat) (G : hq_G) (V : hp_V) (n : Nat) (hI : hq_I cs G V) (t : Nat) (h_t : G t = some (14, 0, 0, 0)) {e_be e_tr e_st e_en e_wo e_ki e_mi e_ta : Nat} {e_fd e_sz : Int32} {e_bk e_an e_mk : Value} (ho_t : V t = some (.inr (1, [.ref (e_be), .ref (e_tr), .int (e_fd), .ref (e_st), .ref (e_en), .ref (e_wo), e_bk, e_an, e_mk, .int (e_sz), .ref (e_ki), .ref (e_mi), .ref (e_ta)]))) (h_e_be : G e_be = some (13, 0, 0, 0)) (h_e_tr : G e_tr = some (13, 0, 0, 0)) (h_e_st : G e_st = some (0, 30, 0, 0)) (h_e_en : G e_en = some (0, 30, 0, 0)) (h_e_wo : G e_wo = some (0, 30, 0, 0)) (h_e_ki : G e_ki = some (2, 8, 2, 0)) (h_e_mi : G e_mi = some (2, 8, 2, 0)) (h_e_ta : G e_ta = some (2, 8, 2, 0)) (hi_t0 : 0 ≤ e_fd.toInt ∧ e_fd.toInt ≤ 1) (hi_t1 : 0 ≤ e_sz.toInt ∧ e_sz.toInt ≤ 2) : hp_M l yX1_forget cX1_forget 1 none ({ frames := 1, cells := 0, slots := 0, locals := 21 }) D cs B V n [.ref (t)] (hp_QV D cs B (fun V' n' => n = n' ∧ hq_P cs G (fun g => g.1 == 8) V V' ∧ (∃ (e_sz1 : Int32), V' t = some (.inr (1, [.ref (e_be), .ref (e_tr), .int (e_fd), .ref (e_st), .ref (e_en), .ref (e_wo), e_bk, e_an, e_mk, .int (e_sz1), .ref (e_ki), .ref (e_mi), .ref (e_ta)])) ∧ (0 ≤ e_sz1.toInt ∧ e_sz1.toInt ≤ 2)))) 0 0 := by
  refine hp_walk (R0 := RX1) (by decide) rfl ?_ (Nat.le_of_ble_eq_true rfl)
  intro p e s m below meth c ls hx hb hr hts hown hlocks hin hml hZ hl
  have hP : hq_P cs G (fun g => g.1 == 8) V V := hq_P.rf hI
  have hl : lv_has ls 1 [(0, .ref (t))] := hl
  have hb_e_fd := hq_rng e_fd
  have hb_e_sz := hq_rng e_sz
  refine lv_aload_n hx hb dX1_forget_0 rfl (lv_at hl 0 rfl) ?_
  refine lv_iconst (v := 0) hx hb dX1_forget_1 (by decide) ?_
  refine hp_put hx hb hts hown hZ ho_t fp_X1_46 rfl rfl (Nat.le_of_ble_eq_true rfl) dX1_forget_2 (fun V1 _ _ e2 o3 hZ => ?_)
  have e2 : V1 (t) = some (.inr (1, [.ref (e_be), .ref (e_tr), .int (e_fd), .ref (e_st), .ref (e_en), .ref (e_wo), e_bk, e_an, e_mk, .int (0), .ref (e_ki), .ref (e_mi), .ref (e_ta)])) := e2
  have hP := hP.put h_t e2 o3 (trivial) rfl
  have hl4 : (0 : Int32).toInt = 0 := by decide
  exact hp_vret hx hb hr hlocks hZ ⟨rfl, hP, ⟨0, e2, by omega⟩⟩ dX1_forget_5

set_option maxHeartbeats 4000000 in
set_option maxRecDepth 100000 in
theorem t_X1_detail (l : Launch) (D : va_G) (cs : Nat → ClassId) (B : Nat) (G : hq_G) (V : hp_V) (n : Nat) (hI : hq_I cs G V) (t : Nat) (h_t : G t = some (14, 0, 0, 0)) (k : Int32) {e_be e_tr e_st e_en e_wo e_ki e_mi e_ta : Nat} {e_fd e_sz : Int32} {e_bk e_an e_mk : Value} (ho_t : V t = some (.inr (1, [.ref (e_be), .ref (e_tr), .int (e_fd), .ref (e_st), .ref (e_en), .ref (e_wo), e_bk, e_an, e_mk, .int (e_sz), .ref (e_ki), .ref (e_mi), .ref (e_ta)]))) (h_e_be : G e_be = some (13, 0, 0, 0)) (h_e_tr : G e_tr = some (13, 0, 0, 0)) (h_e_st : G e_st = some (0, 30, 0, 0)) (h_e_en : G e_en = some (0, 30, 0, 0)) (h_e_wo : G e_wo = some (0, 30, 0, 0)) (h_e_ki : G e_ki = some (2, 8, 2, 0)) (h_e_mi : G e_mi = some (2, 8, 2, 0)) (h_e_ta : G e_ta = some (2, 8, 2, 0)) (hi_t0 : 0 ≤ e_fd.toInt ∧ e_fd.toInt ≤ 1) (hi_t1 : 0 ≤ e_sz.toInt ∧ e_sz.toInt ≤ 2) : hp_M l yX1_detail cX1_detail 3 (some .int) ({ frames := 1, cells := 0, slots := 0, locals := 21 }) D cs B V n [.ref (t), .int (k)] (hp_QI D cs B (fun r V' n' => n = n' ∧ hq_P cs G (fun _ => false) V V' ∧ (V' t = some (.inr (1, [.ref (e_be), .ref (e_tr), .int (e_fd), .ref (e_st), .ref (e_en), .ref (e_wo), e_bk, e_an, e_mk, .int (e_sz), .ref (e_ki), .ref (e_mi), .ref (e_ta)]))) ∧ True)) 0 0 := by
  refine hp_walk (R0 := RX1) (by decide) rfl ?_ (Nat.le_of_ble_eq_true rfl)
  intro p e s m below meth c ls hx hb hr hts hown hlocks hin hml hZ hl
  have hP : hq_P cs G (fun _ => false) V V := hq_P.rf hI
  have hl : lv_has ls 3 [(0, .ref (t)), (1, .int (k))] := hl
  have hb_k := hq_rng k
  have hb_e_fd := hq_rng e_fd
  have hb_e_sz := hq_rng e_sz
  refine lv_iload_n hx hb dX1_detail_0 rfl (lv_at hl 1 rfl) ?_
  refine lv_if_ne (tgt := 16) hx hb dX1_detail_1 (by decide) (fun c1 => ?_) (fun c1 => ?_)
  · have c1 : ¬ (k).toInt = (0 : Int) := fun h9 => c1 (hq_eqi.mpr h9)
    refine lv_iload_n hx hb dX1_detail_16 rfl (lv_at hl 1 rfl) ?_
    refine lv_bipush (v := 10) hx hb dX1_detail_17 (by decide) ?_
    refine lv_icmp_ge (tgt := 26) hx hb dX1_detail_19 (by decide) (fun c2 => ?_) (fun c2 => ?_)
    · have c2 : (10 : Int) ≤ (k).toInt := hq_lei.mp c2
      refine lv_iload_n hx hb dX1_detail_26 rfl (lv_at hl 1 rfl) ?_
      refine lv_bipush (v := 10) hx hb dX1_detail_27 (by decide) ?_
      refine lv_irem hx hb dX1_detail_29 (by decide) ?_
      refine lv_topi (fun y3 ey4 => ?_)
      have b5 : (y3).toInt = (k).toInt % 10 := by rw [ey4]; exact hq_remp k 10 (by omega) (by decide)
      refine lv_istore_n (lv' := [(2, .int (y3)), (0, .ref (t)), (1, .int (k))]) hx hb dX1_detail_30 rfl hl (by decide) rfl (fun ls hl => ?_)
      refine lv_iload_n hx hb dX1_detail_31 rfl (lv_at hl 0 rfl) ?_
      refine lv_if_lt (tgt := 43) hx hb dX1_detail_32 (by decide) (fun c6 => ?_) (fun c6 => ?_)
      · have c6 : (y3).toInt < (0 : Int) := hq_lti.mp c6
        refine lv_bipush (v := -9) hx hb dX1_detail_43 (by decide) ?_
        exact hp_iret hx hb hr hlocks hZ ⟨rfl, hP, ho_t, trivial⟩ dX1_detail_45
      · have c6 : ¬ (y3).toInt < (0 : Int) := fun h9 => c6 (hq_lti.mpr h9)
        refine lv_iload_n hx hb dX1_detail_35 rfl (lv_at hl 0 rfl) ?_
        refine lv_aload_n hx hb dX1_detail_36 rfl (lv_at hl 1 rfl) ?_
        refine hp_get (v := .int (e_sz)) hx hb hts hown hZ ho_t fl_X1_46 rfl dX1_detail_37 ?_
        refine lv_icmp_lt (tgt := 46) hx hb dX1_detail_40 (by decide) (fun c7 => ?_) (fun c7 => ?_)
        · have c7 : (y3).toInt < (e_sz).toInt := hq_lti.mp c7
          refine lv_iload_n hx hb dX1_detail_46 rfl (lv_at hl 2 rfl) ?_
          refine lv_bipush (v := 10) hx hb dX1_detail_47 (by decide) ?_
          refine lv_idiv hx hb dX1_detail_49 (by decide) ?_
          refine lv_topi (fun y8 ey9 => ?_)
          have b10 : (y8).toInt = (k).toInt / 10 := by rw [ey9]; exact hq_divp k 10 (by omega) (by decide)
          rcases Classical.em (y8 = 1) with h11 | h11
          · refine lv_tableIn (off := 26) (tgt := 76) hx hb dX1_detail_50 (by rw [h11]; decide) (by rw [h11]; decide) (by rw [h11]; decide) (by decide) ?_
            have b12 : (y8).toInt = 1 := by rw [h11]; decide
            refine lv_aload_n hx hb dX1_detail_76 rfl (lv_at hl 1 rfl) ?_
            refine hp_get (v := .ref (e_ki)) hx hb hts hown hZ ho_t fl_X1_36 rfl dX1_detail_77 ?_
            refine lv_iload_n hx hb dX1_detail_80 rfl (lv_at hl 0 rfl) ?_
            obtain ⟨hN15, g14, eV13, hf16⟩ := hq_o2 hP.1 h_e_ki
            refine hp_iald hx hb hZ eV13 (hq_in (by omega) (by omega)) dX1_detail_81 ?_
            refine lv_topi (fun y17 ey18 => ?_)
            have b19 := hq_rng y17
            exact hp_iret hx hb hr hlocks hZ ⟨rfl, hP, ho_t, trivial⟩ dX1_detail_82
          ·
            rcases Classical.em (y8 = 2) with h20 | h20
            · refine lv_tableIn (off := 33) (tgt := 83) hx hb dX1_detail_50 (by rw [h20]; decide) (by rw [h20]; decide) (by rw [h20]; decide) (by decide) ?_
              have b21 : (y8).toInt = 2 := by rw [h20]; decide
              refine lv_aload_n hx hb dX1_detail_83 rfl (lv_at hl 1 rfl) ?_
              refine hp_get (v := .ref (e_mi)) hx hb hts hown hZ ho_t fl_X1_40 rfl dX1_detail_84 ?_
              refine lv_iload_n hx hb dX1_detail_87 rfl (lv_at hl 0 rfl) ?_
              obtain ⟨hN24, g23, eV22, hf25⟩ := hq_o2 hP.1 h_e_mi
              refine hp_iald hx hb hZ eV22 (hq_in (by omega) (by omega)) dX1_detail_88 ?_
              refine lv_topi (fun y26 ey27 => ?_)
              have b28 := hq_rng y26
              exact hp_iret hx hb hr hlocks hZ ⟨rfl, hP, ho_t, trivial⟩ dX1_detail_89
            ·
              rcases Classical.em (y8 = 3) with h29 | h29
              · refine lv_tableIn (off := 40) (tgt := 90) hx hb dX1_detail_50 (by rw [h29]; decide) (by rw [h29]; decide) (by rw [h29]; decide) (by decide) ?_
                have b30 : (y8).toInt = 3 := by rw [h29]; decide
                refine lv_aload_n hx hb dX1_detail_90 rfl (lv_at hl 1 rfl) ?_
                refine hp_get (v := .ref (e_ta)) hx hb hts hown hZ ho_t fl_X1_43 rfl dX1_detail_91 ?_
                refine lv_iload_n hx hb dX1_detail_94 rfl (lv_at hl 0 rfl) ?_
                obtain ⟨hN33, g32, eV31, hf34⟩ := hq_o2 hP.1 h_e_ta
                refine hp_iald hx hb hZ eV31 (hq_in (by omega) (by omega)) dX1_detail_95 ?_
                refine lv_topi (fun y35 ey36 => ?_)
                have b37 := hq_rng y35
                exact hp_iret hx hb hr hlocks hZ ⟨rfl, hP, ho_t, trivial⟩ dX1_detail_96
              ·
                have z38 : ¬ (y8).toInt = 1 := lv_neT h11 (by decide)
                have z39 : ¬ (y8).toInt = 2 := lv_neT h20 (by decide)
                have z40 : ¬ (y8).toInt = 3 := lv_neT h29 (by decide)
                refine lv_tableOut (tgt := 97) hx hb dX1_detail_50 (by omega) (by decide) ?_
                refine lv_bipush (v := -9) hx hb dX1_detail_97 (by decide) ?_
                exact hp_iret hx hb hr hlocks hZ ⟨rfl, hP, ho_t, trivial⟩ dX1_detail_99
        · have c7 : ¬ (y3).toInt < (e_sz).toInt := fun h9 => c7 (hq_lti.mpr h9)
          refine lv_bipush (v := -9) hx hb dX1_detail_43 (by decide) ?_
          exact hp_iret hx hb hr hlocks hZ ⟨rfl, hP, ho_t, trivial⟩ dX1_detail_45
    · have c2 : ¬ (10 : Int) ≤ (k).toInt := fun h9 => c2 (hq_lei.mpr h9)
      refine lv_iconst (v := -1) hx hb dX1_detail_22 (by decide) ?_
      refine lv_goto (tgt := 30) hx hb dX1_detail_23 (by decide) ?_
      refine lv_istore_n (lv' := [(2, .int (-1)), (0, .ref (t)), (1, .int (k))]) hx hb dX1_detail_30 rfl hl (by decide) rfl (fun ls hl => ?_)
      refine lv_iload_n hx hb dX1_detail_31 rfl (lv_at hl 0 rfl) ?_
      refine lv_if_lt (tgt := 43) hx hb dX1_detail_32 (by decide) (fun c41 => ?_) (fun c41 => absurd (by decide) c41)
      refine lv_bipush (v := -9) hx hb dX1_detail_43 (by decide) ?_
      exact hp_iret hx hb hr hlocks hZ ⟨rfl, hP, ho_t, trivial⟩ dX1_detail_45
  · have c1 : (k).toInt = (0 : Int) := hq_eqi.mp c1
    refine lv_aload_n hx hb dX1_detail_4 rfl (lv_at hl 0 rfl) ?_
    refine hp_get (v := .int (e_sz)) hx hb hts hown hZ ho_t fl_X1_46 rfl dX1_detail_5 ?_
    refine lv_if_le (tgt := 16) hx hb dX1_detail_8 (by decide) (fun c42 => ?_) (fun c42 => ?_)
    · have c42 : (e_sz).toInt ≤ (0 : Int) := hq_lei.mp c42
      refine lv_iload_n hx hb dX1_detail_16 rfl (lv_at hl 1 rfl) ?_
      refine lv_bipush (v := 10) hx hb dX1_detail_17 (by decide) ?_
      refine lv_icmp_ge (tgt := 26) hx hb dX1_detail_19 (by decide) (fun c43 => ?_) (fun c43 => ?_)
      · have c43 : (10 : Int) ≤ (k).toInt := hq_lei.mp c43
        refine lv_iload_n hx hb dX1_detail_26 rfl (lv_at hl 1 rfl) ?_
        refine lv_bipush (v := 10) hx hb dX1_detail_27 (by decide) ?_
        refine lv_irem hx hb dX1_detail_29 (by decide) ?_
        refine lv_topi (fun y44 ey45 => ?_)
        have b46 : (y44).toInt = (k).toInt % 10 := by rw [ey45]; exact hq_remp k 10 (by omega) (by decide)
        refine lv_istore_n (lv' := [(2, .int (y44)), (0, .ref (t)), (1, .int (k))]) hx hb dX1_detail_30 rfl hl (by decide) rfl (fun ls hl => ?_)
        refine lv_iload_n hx hb dX1_detail_31 rfl (lv_at hl 0 rfl) ?_
        refine lv_if_lt (tgt := 43) hx hb dX1_detail_32 (by decide) (fun c47 => ?_) (fun c47 => ?_)
        · have c47 : (y44).toInt < (0 : Int) := hq_lti.mp c47
          refine lv_bipush (v := -9) hx hb dX1_detail_43 (by decide) ?_
          exact hp_iret hx hb hr hlocks hZ ⟨rfl, hP, ho_t, trivial⟩ dX1_detail_45
        · have c47 : ¬ (y44).toInt < (0 : Int) := fun h9 => c47 (hq_lti.mpr h9)
          refine lv_iload_n hx hb dX1_detail_35 rfl (lv_at hl 0 rfl) ?_
          refine lv_aload_n hx hb dX1_detail_36 rfl (lv_at hl 1 rfl) ?_
          refine hp_get (v := .int (e_sz)) hx hb hts hown hZ ho_t fl_X1_46 rfl dX1_detail_37 ?_
          refine lv_icmp_lt (tgt := 46) hx hb dX1_detail_40 (by decide) (fun c48 => ?_) (fun c48 => ?_)
          · have c48 : (y44).toInt < (e_sz).toInt := hq_lti.mp c48
            refine lv_iload_n hx hb dX1_detail_46 rfl (lv_at hl 2 rfl) ?_
            refine lv_bipush (v := 10) hx hb dX1_detail_47 (by decide) ?_
            refine lv_idiv hx hb dX1_detail_49 (by decide) ?_
            refine lv_topi (fun y49 ey50 => ?_)
            have b51 : (y49).toInt = (k).toInt / 10 := by rw [ey50]; exact hq_divp k 10 (by omega) (by decide)
            rcases Classical.em (y49 = 1) with h52 | h52
            · refine lv_tableIn (off := 26) (tgt := 76) hx hb dX1_detail_50 (by rw [h52]; decide) (by rw [h52]; decide) (by rw [h52]; decide) (by decide) ?_
              have b53 : (y49).toInt = 1 := by rw [h52]; decide
              refine lv_aload_n hx hb dX1_detail_76 rfl (lv_at hl 1 rfl) ?_
              refine hp_get (v := .ref (e_ki)) hx hb hts hown hZ ho_t fl_X1_36 rfl dX1_detail_77 ?_
              refine lv_iload_n hx hb dX1_detail_80 rfl (lv_at hl 0 rfl) ?_
              obtain ⟨hN56, g55, eV54, hf57⟩ := hq_o2 hP.1 h_e_ki
              refine hp_iald hx hb hZ eV54 (hq_in (by omega) (by omega)) dX1_detail_81 ?_
              refine lv_topi (fun y58 ey59 => ?_)
              have b60 := hq_rng y58
              exact hp_iret hx hb hr hlocks hZ ⟨rfl, hP, ho_t, trivial⟩ dX1_detail_82
            ·
              rcases Classical.em (y49 = 2) with h61 | h61
              · refine lv_tableIn (off := 33) (tgt := 83) hx hb dX1_detail_50 (by rw [h61]; decide) (by rw [h61]; decide) (by rw [h61]; decide) (by decide) ?_
                have b62 : (y49).toInt = 2 := by rw [h61]; decide
                refine lv_aload_n hx hb dX1_detail_83 rfl (lv_at hl 1 rfl) ?_
                refine hp_get (v := .ref (e_mi)) hx hb hts hown hZ ho_t fl_X1_40 rfl dX1_detail_84 ?_
                refine lv_iload_n hx hb dX1_detail_87 rfl (lv_at hl 0 rfl) ?_
                obtain ⟨hN65, g64, eV63, hf66⟩ := hq_o2 hP.1 h_e_mi
                refine hp_iald hx hb hZ eV63 (hq_in (by omega) (by omega)) dX1_detail_88 ?_
                refine lv_topi (fun y67 ey68 => ?_)
                have b69 := hq_rng y67
                exact hp_iret hx hb hr hlocks hZ ⟨rfl, hP, ho_t, trivial⟩ dX1_detail_89
              ·
                rcases Classical.em (y49 = 3) with h70 | h70
                · refine lv_tableIn (off := 40) (tgt := 90) hx hb dX1_detail_50 (by rw [h70]; decide) (by rw [h70]; decide) (by rw [h70]; decide) (by decide) ?_
                  have b71 : (y49).toInt = 3 := by rw [h70]; decide
                  refine lv_aload_n hx hb dX1_detail_90 rfl (lv_at hl 1 rfl) ?_
                  refine hp_get (v := .ref (e_ta)) hx hb hts hown hZ ho_t fl_X1_43 rfl dX1_detail_91 ?_
                  refine lv_iload_n hx hb dX1_detail_94 rfl (lv_at hl 0 rfl) ?_
                  obtain ⟨hN74, g73, eV72, hf75⟩ := hq_o2 hP.1 h_e_ta
                  refine hp_iald hx hb hZ eV72 (hq_in (by omega) (by omega)) dX1_detail_95 ?_
                  refine lv_topi (fun y76 ey77 => ?_)
                  have b78 := hq_rng y76
                  exact hp_iret hx hb hr hlocks hZ ⟨rfl, hP, ho_t, trivial⟩ dX1_detail_96
                ·
                  have z79 : ¬ (y49).toInt = 1 := lv_neT h52 (by decide)
                  have z80 : ¬ (y49).toInt = 2 := lv_neT h61 (by decide)
                  have z81 : ¬ (y49).toInt = 3 := lv_neT h70 (by decide)
                  refine lv_tableOut (tgt := 97) hx hb dX1_detail_50 (by omega) (by decide) ?_
                  refine lv_bipush (v := -9) hx hb dX1_detail_97 (by decide) ?_
                  exact hp_iret hx hb hr hlocks hZ ⟨rfl, hP, ho_t, trivial⟩ dX1_detail_99
          · have c48 : ¬ (y44).toInt < (e_sz).toInt := fun h9 => c48 (hq_lti.mpr h9)
            refine lv_bipush (v := -9) hx hb dX1_detail_43 (by decide) ?_
            exact hp_iret hx hb hr hlocks hZ ⟨rfl, hP, ho_t, trivial⟩ dX1_detail_45
      · have c43 : ¬ (10 : Int) ≤ (k).toInt := fun h9 => c43 (hq_lei.mpr h9)
        refine lv_iconst (v := -1) hx hb dX1_detail_22 (by decide) ?_
        refine lv_goto (tgt := 30) hx hb dX1_detail_23 (by decide) ?_
        refine lv_istore_n (lv' := [(2, .int (-1)), (0, .ref (t)), (1, .int (k))]) hx hb dX1_detail_30 rfl hl (by decide) rfl (fun ls hl => ?_)
        refine lv_iload_n hx hb dX1_detail_31 rfl (lv_at hl 0 rfl) ?_
        refine lv_if_lt (tgt := 43) hx hb dX1_detail_32 (by decide) (fun c82 => ?_) (fun c82 => absurd (by decide) c82)
        refine lv_bipush (v := -9) hx hb dX1_detail_43 (by decide) ?_
        exact hp_iret hx hb hr hlocks hZ ⟨rfl, hP, ho_t, trivial⟩ dX1_detail_45
    · have c42 : ¬ (e_sz).toInt ≤ (0 : Int) := fun h9 => c42 (hq_lei.mpr h9)
      refine lv_aload_n hx hb dX1_detail_11 rfl (lv_at hl 0 rfl) ?_
      refine hp_get (v := .int (e_sz)) hx hb hts hown hZ ho_t fl_X1_46 rfl dX1_detail_12 ?_
      exact hp_iret hx hb hr hlocks hZ ⟨rfl, hP, ho_t, trivial⟩ dX1_detail_15

set_option maxHeartbeats 4000000 in
set_option maxRecDepth 100000 in
theorem t_X1_missedBits (l : Launch) (D : va_G) (cs : Nat → ClassId) (B : Nat) (G : hq_G) (V : hp_V) (n : Nat) (hI : hq_I cs G V) (t : Nat) (h_t : G t = some (14, 0, 0, 0)) {e_be e_tr e_st e_en e_wo e_ki e_mi e_ta : Nat} {e_fd e_sz : Int32} {e_bk e_an e_mk : Value} (ho_t : V t = some (.inr (1, [.ref (e_be), .ref (e_tr), .int (e_fd), .ref (e_st), .ref (e_en), .ref (e_wo), e_bk, e_an, e_mk, .int (e_sz), .ref (e_ki), .ref (e_mi), .ref (e_ta)]))) (h_e_be : G e_be = some (13, 0, 0, 0)) (h_e_tr : G e_tr = some (13, 0, 0, 0)) (h_e_st : G e_st = some (0, 30, 0, 0)) (h_e_en : G e_en = some (0, 30, 0, 0)) (h_e_wo : G e_wo = some (0, 30, 0, 0)) (h_e_ki : G e_ki = some (2, 8, 2, 0)) (h_e_mi : G e_mi = some (2, 8, 2, 0)) (h_e_ta : G e_ta = some (2, 8, 2, 0)) (hi_t0 : 0 ≤ e_fd.toInt ∧ e_fd.toInt ≤ 1) (hi_t1 : 0 ≤ e_sz.toInt ∧ e_sz.toInt ≤ 2) : hp_M l yX1_missedBits cX1_missedBits 4 (some .long) ({ frames := 1, cells := 0, slots := 0, locals := 21 }) D cs B V n [.ref (t)] (hp_QL D cs B (fun r V' n' => n = n' ∧ hq_P cs G (fun _ => false) V V' ∧ (V' t = some (.inr (1, [.ref (e_be), .ref (e_tr), .int (e_fd), .ref (e_st), .ref (e_en), .ref (e_wo), e_bk, e_an, e_mk, .int (e_sz), .ref (e_ki), .ref (e_mi), .ref (e_ta)]))) ∧ True)) 0 0 := by
  refine hp_walk (R0 := RX1) (by decide) rfl ?_ (Nat.le_of_ble_eq_true rfl)
  intro p e s m below meth c ls hx hb hr hts hown hlocks hin hml hZ hl
  have hP : hq_P cs G (fun _ => false) V V := hq_P.rf hI
  have hl : lv_has ls 4 [(0, .ref (t))] := hl
  have hb_e_fd := hq_rng e_fd
  have hb_e_sz := hq_rng e_sz
  refine lv_lconst (v := 0) hx hb dX1_missedBits_0 (by decide) ?_
  refine lv_lstore_n (lv' := [(1, .long (0)), (0, .ref (t))]) hx hb dX1_missedBits_1 rfl hl (by decide) rfl (fun ls hl => ?_)
  refine lv_iconst (v := 0) hx hb dX1_missedBits_2 (by decide) ?_
  refine lv_istore_n (lv' := [(3, .int (0)), (1, .long (0)), (0, .ref (t))]) hx hb dX1_missedBits_3 rfl hl (by decide) rfl (fun ls hl => ?_)
  have hl1 : (0 : Int32).toInt = 0 := by decide
  suffices lp4 : ∀ (k9 : Nat) (V9 : hp_V) (H9 : Heap) (locs9 : List Loc) (ls : Array Slot) (bits : Int64) (i : Int32), (100 - i.toInt).toNat = k9 → hp_Z D cs B s V9 H9 n locs9 → hq_P cs G (fun _ => false) V V9 → 0 ≤ i.toInt → i.toInt ≤ 2 → lv_has ls 4 [(3, .int (i)), (1, .long (bits)), (0, .ref (t))] → W p l e ({ frames := 1, cells := 0, slots := 0, locals := 21 }) s m ([.ref (t)] : List Value).toArray below meth c H9 locs9 0 0 (MQ below (hp_QL D cs B (fun r V' n' => n = n' ∧ hq_P cs G (fun _ => false) V V' ∧ (V' t = some (.inr (1, [.ref (e_be), .ref (e_tr), .int (e_fd), .ref (e_st), .ref (e_en), .ref (e_wo), e_bk, e_an, e_mk, .int (e_sz), .ref (e_ki), .ref (e_mi), .ref (e_ta)]))) ∧ True)) ([.ref (t)] : List Value).toArray s 0 0 (hp_F B)) (F0 m 4 ls []) from lp4 _ _ _ _ ls (0) (0) rfl hZ hP (by omega) (by omega) (lv_sub hl [0, 1, 2] rfl)
  intro k9
  induction k9 using Nat.strongRecOn with
  | _ k9 ih4 =>
    intro V9 H9 locs9 ls bits i  hk4 hZ hP  hv2 hv3 hl
    have hb_i := hq_rng i
    have hP_4 := hP
    refine lv_iload_n hx hb dX1_missedBits_4 rfl (lv_at hl 0 rfl) ?_
    refine lv_aload_n hx hb dX1_missedBits_5 rfl (lv_at hl 2 rfl) ?_
    have fx4 : V9 (t) = some (.inr (1, [.ref (e_be), .ref (e_tr), .int (e_fd), .ref (e_st), .ref (e_en), .ref (e_wo), e_bk, e_an, e_mk, .int (e_sz), .ref (e_ki), .ref (e_mi), .ref (e_ta)])) := (hP_4.2 (t) _ h_t rfl).trans (ho_t)
    refine hp_get (v := .int (e_sz)) hx hb hts hown hZ fx4 fl_X1_46 rfl dX1_missedBits_6 ?_
    refine lv_icmp_ge (tgt := 43) hx hb dX1_missedBits_9 (by decide) (fun c5 => ?_) (fun c5 => ?_)
    · have c5 : (e_sz).toInt ≤ (i).toInt := hq_lei.mp c5
      refine lv_lload_n hx hb dX1_missedBits_43 rfl (lv_at hl 1 rfl) ?_
      exact hp_lret hx hb hr hlocks hZ ⟨rfl, hP, fx4, trivial⟩ dX1_missedBits_44
    · have c5 : ¬ (e_sz).toInt ≤ (i).toInt := fun h9 => c5 (hq_lei.mpr h9)
      refine lv_lload_n hx hb dX1_missedBits_12 rfl (lv_at hl 1 rfl) ?_
      refine lv_aload_n hx hb dX1_missedBits_13 rfl (lv_at hl 2 rfl) ?_
      refine hp_get (v := .ref (e_mi)) hx hb hts hown hZ fx4 fl_X1_40 rfl dX1_missedBits_14 ?_
      refine lv_iload_n hx hb dX1_missedBits_17 rfl (lv_at hl 0 rfl) ?_
      obtain ⟨hN8, g7, eV6, hf9⟩ := hq_o2 hP.1 h_e_mi
      refine hp_iald hx hb hZ eV6 (hq_in (by omega) (by omega)) dX1_missedBits_18 ?_
      refine lv_topi (fun y10 ey11 => ?_)
      have b12 := hq_rng y10
      refine lv_iconst (v := -1) hx hb dX1_missedBits_19 (by decide) ?_
      refine lv_icmp_ne (tgt := 27) hx hb dX1_missedBits_20 (by decide) (fun c13 => ?_) (fun c13 => ?_)
      · have c13 : ¬ (y10).toInt = (-1 : Int) := fun h9 => c13 (hq_eqi.mpr h9)
        refine lv_lconst (v := 1) hx hb dX1_missedBits_27 (by decide) ?_
        refine lv_aload_n hx hb dX1_missedBits_28 rfl (lv_at hl 2 rfl) ?_
        refine hp_get (v := .ref (e_mi)) hx hb hts hown hZ fx4 fl_X1_40 rfl dX1_missedBits_29 ?_
        refine lv_iload_n hx hb dX1_missedBits_32 rfl (lv_at hl 0 rfl) ?_
        refine hp_iald hx hb hZ eV6 (hq_in (by omega) (by omega)) dX1_missedBits_33 ?_
        refine lv_topi (fun y14 ey15 => ?_)
        have b16 := hq_rng y14
        refine lv_lshl (v := (1 : Int64) <<< ((y14 : Int32).toInt64 &&& 63)) hx hb dX1_missedBits_34 rfl ?_
        refine lv_topl (fun y17 ey18 => ?_)
        refine lv_lor hx hb dX1_missedBits_35 ?_
        refine lv_topl (fun y19 ey20 => ?_)
        refine lv_lstore_n (lv' := [(1, .long (y19)), (3, .int (i)), (0, .ref (t))]) hx hb dX1_missedBits_36 rfl hl (by decide) rfl (fun ls hl => ?_)
        obtain ⟨y21, ey22⟩ : ∃ y : Int32, y = i + (1) := ⟨_, rfl⟩
        obtain ⟨k23, hk24, b25, b26⟩ := hq_add (i) (1)
        rw [← ey22] at hk24 b25 b26
        have hk24 : (y21).toInt = (i).toInt + (1) + k23 * 4294967296 := hk24
        refine lv_iinc (v := y21) (lv' := [(3, .int (y21)), (1, .long (y19)), (0, .ref (t))]) hx hb dX1_missedBits_37 hl (k := 1) rfl (by rw [ey22]; rfl) (by decide) rfl (fun ls hl => ?_)
        refine lv_goto (tgt := 4) hx hb dX1_missedBits_40 (by decide) ?_
        exact ih4 _ (by omega) _ _ _ ls (y19) (y21) rfl hZ hP (by omega) (by omega) (lv_sub hl [0, 1, 2] rfl)
      · have c13 : (y10).toInt = (-1 : Int) := hq_eqi.mp c13
        refine lv_lconst (v := 0) hx hb dX1_missedBits_23 (by decide) ?_
        refine lv_goto (tgt := 35) hx hb dX1_missedBits_24 (by decide) ?_
        refine lv_lor hx hb dX1_missedBits_35 ?_
        refine lv_topl (fun y27 ey28 => ?_)
        refine lv_lstore_n (lv' := [(1, .long (y27)), (3, .int (i)), (0, .ref (t))]) hx hb dX1_missedBits_36 rfl hl (by decide) rfl (fun ls hl => ?_)
        obtain ⟨y29, ey30⟩ : ∃ y : Int32, y = i + (1) := ⟨_, rfl⟩
        obtain ⟨k31, hk32, b33, b34⟩ := hq_add (i) (1)
        rw [← ey30] at hk32 b33 b34
        have hk32 : (y29).toInt = (i).toInt + (1) + k31 * 4294967296 := hk32
        refine lv_iinc (v := y29) (lv' := [(3, .int (y29)), (1, .long (y27)), (0, .ref (t))]) hx hb dX1_missedBits_37 hl (k := 1) rfl (by rw [ey30]; rfl) (by decide) rfl (fun ls hl => ?_)
        refine lv_goto (tgt := 4) hx hb dX1_missedBits_40 (by decide) ?_
        exact ih4 _ (by omega) _ _ _ ls (y27) (y29) rfl hZ hP (by omega) (by omega) (lv_sub hl [0, 1, 2] rfl)

set_option maxHeartbeats 4000000 in
set_option maxRecDepth 100000 in
theorem t_X1_addChange (l : Launch) (D : va_G) (cs : Nat → ClassId) (B : Nat) (G : hq_G) (V : hp_V) (n : Nat) (hI : hq_I cs G V) (t : Nat) (h_t : G t = some (14, 0, 0, 0)) (k1 : Int32) (k2 : Int32) (k3 : Int32) {e_be e_tr e_st e_en e_wo e_ki e_mi e_ta : Nat} {e_fd e_sz : Int32} {e_bk e_an e_mk : Value} (ho_t : V t = some (.inr (1, [.ref (e_be), .ref (e_tr), .int (e_fd), .ref (e_st), .ref (e_en), .ref (e_wo), e_bk, e_an, e_mk, .int (e_sz), .ref (e_ki), .ref (e_mi), .ref (e_ta)]))) (h_e_be : G e_be = some (13, 0, 0, 0)) (h_e_tr : G e_tr = some (13, 0, 0, 0)) (h_e_st : G e_st = some (0, 30, 0, 0)) (h_e_en : G e_en = some (0, 30, 0, 0)) (h_e_wo : G e_wo = some (0, 30, 0, 0)) (h_e_ki : G e_ki = some (2, 8, 2, 0)) (h_e_mi : G e_mi = some (2, 8, 2, 0)) (h_e_ta : G e_ta = some (2, 8, 2, 0)) (hi_t0 : 0 ≤ e_fd.toInt ∧ e_fd.toInt ≤ 1) (hi_t1 : 0 ≤ e_sz.toInt ∧ e_sz.toInt ≤ 2) : hp_M l yX1_addChange cX1_addChange 4 none ({ frames := 1, cells := 0, slots := 0, locals := 21 }) D cs B V n [.ref (t), .int (k1), .int (k2), .int (k3)] (hp_QV D cs B (fun V' n' => n = n' ∧ hq_P cs G (fun g => g.1 == 8) V V' ∧ (∃ (e_sz1 : Int32), V' t = some (.inr (1, [.ref (e_be), .ref (e_tr), .int (e_fd), .ref (e_st), .ref (e_en), .ref (e_wo), e_bk, e_an, e_mk, .int (e_sz1), .ref (e_ki), .ref (e_mi), .ref (e_ta)])) ∧ (0 ≤ e_sz1.toInt ∧ e_sz1.toInt ≤ 2)))) 0 0 := by
  refine hp_walk (R0 := RX1) (by decide) rfl ?_ (Nat.le_of_ble_eq_true rfl)
  intro p e s m below meth c ls hx hb hr hts hown hlocks hin hml hZ hl
  have hP : hq_P cs G (fun g => g.1 == 8) V V := hq_P.rf hI
  have hl : lv_has ls 4 [(0, .ref (t)), (1, .int (k1)), (2, .int (k2)), (3, .int (k3))] := hl
  have hb_k1 := hq_rng k1
  have hb_k2 := hq_rng k2
  have hb_k3 := hq_rng k3
  have hb_e_fd := hq_rng e_fd
  have hb_e_sz := hq_rng e_sz
  refine lv_aload_n hx hb dX1_addChange_0 rfl (lv_at hl 0 rfl) ?_
  refine hp_get (v := .int (e_sz)) hx hb hts hown hZ ho_t fl_X1_46 rfl dX1_addChange_1 ?_
  refine lv_iconst (v := 2) hx hb dX1_addChange_4 (by decide) ?_
  refine lv_icmp_ge (tgt := 48) hx hb dX1_addChange_5 (by decide) (fun c1 => ?_) (fun c1 => ?_)
  · have c1 : (2 : Int) ≤ (e_sz).toInt := hq_lei.mp c1
    exact hp_vret hx hb hr hlocks hZ ⟨rfl, hP, ⟨e_sz, ho_t, by omega⟩⟩ dX1_addChange_48
  · have c1 : ¬ (2 : Int) ≤ (e_sz).toInt := fun h9 => c1 (hq_lei.mpr h9)
    refine lv_aload_n hx hb dX1_addChange_8 rfl (lv_at hl 0 rfl) ?_
    refine hp_get (v := .ref (e_ki)) hx hb hts hown hZ ho_t fl_X1_36 rfl dX1_addChange_9 ?_
    refine lv_aload_n hx hb dX1_addChange_12 rfl (lv_at hl 0 rfl) ?_
    refine hp_get (v := .int (e_sz)) hx hb hts hown hZ ho_t fl_X1_46 rfl dX1_addChange_13 ?_
    refine lv_iload_n hx hb dX1_addChange_16 rfl (lv_at hl 1 rfl) ?_
    obtain ⟨hN4, g3, eV2, hf5⟩ := hq_o2 hP.1 h_e_ki
    refine hp_iast hx hb hZ eV2 (hq_in (by omega) (by omega)) dX1_addChange_17 (fun V6 _ _ e7 o8 hZ => ?_)
    have e7 : V6 (e_ki) = some (.inl (cs 1, 2, .inl (upd (g3) ((e_sz : Int32).toNatClampNeg) (k1)))) := e7
    have hP := hP.put h_e_ki e7 o8 (hq_c2 (by omega) (hq_upd hf5 (hq_rng _))) rfl
    refine lv_aload_n hx hb dX1_addChange_18 rfl (lv_at hl 0 rfl) ?_
    have fx9 : V6 (t) = some (.inr (1, [.ref (e_be), .ref (e_tr), .int (e_fd), .ref (e_st), .ref (e_en), .ref (e_wo), e_bk, e_an, e_mk, .int (e_sz), .ref (e_ki), .ref (e_mi), .ref (e_ta)])) := (o8 (t) (hq_tne h_t h_e_ki (by simp))).trans (ho_t)
    refine hp_get (v := .ref (e_mi)) hx hb hts hown hZ fx9 fl_X1_40 rfl dX1_addChange_19 ?_
    refine lv_aload_n hx hb dX1_addChange_22 rfl (lv_at hl 0 rfl) ?_
    refine hp_get (v := .int (e_sz)) hx hb hts hown hZ fx9 fl_X1_46 rfl dX1_addChange_23 ?_
    refine lv_iload_n hx hb dX1_addChange_26 rfl (lv_at hl 2 rfl) ?_
    obtain ⟨hN12, g11, eV10, hf13⟩ := hq_o2 hP.1 h_e_mi
    refine hp_iast hx hb hZ eV10 (hq_in (by omega) (by omega)) dX1_addChange_27 (fun V14 _ _ e15 o16 hZ => ?_)
    have e15 : V14 (e_mi) = some (.inl (cs 1, 2, .inl (upd (g11) ((e_sz : Int32).toNatClampNeg) (k2)))) := e15
    have hP := hP.put h_e_mi e15 o16 (hq_c2 (by omega) (hq_upd hf13 (hq_rng _))) rfl
    refine lv_aload_n hx hb dX1_addChange_28 rfl (lv_at hl 0 rfl) ?_
    have fx17 : V14 (t) = some (.inr (1, [.ref (e_be), .ref (e_tr), .int (e_fd), .ref (e_st), .ref (e_en), .ref (e_wo), e_bk, e_an, e_mk, .int (e_sz), .ref (e_ki), .ref (e_mi), .ref (e_ta)])) := (o16 (t) (hq_tne h_t h_e_mi (by simp))).trans (fx9)
    refine hp_get (v := .ref (e_ta)) hx hb hts hown hZ fx17 fl_X1_43 rfl dX1_addChange_29 ?_
    refine lv_aload_n hx hb dX1_addChange_32 rfl (lv_at hl 0 rfl) ?_
    refine hp_get (v := .int (e_sz)) hx hb hts hown hZ fx17 fl_X1_46 rfl dX1_addChange_33 ?_
    refine lv_iload_n hx hb dX1_addChange_36 rfl (lv_at hl 3 rfl) ?_
    obtain ⟨hN20, g19, eV18, hf21⟩ := hq_o2 hP.1 h_e_ta
    refine hp_iast hx hb hZ eV18 (hq_in (by omega) (by omega)) dX1_addChange_37 (fun V22 _ _ e23 o24 hZ => ?_)
    have e23 : V22 (e_ta) = some (.inl (cs 1, 2, .inl (upd (g19) ((e_sz : Int32).toNatClampNeg) (k3)))) := e23
    have hP := hP.put h_e_ta e23 o24 (hq_c2 (by omega) (hq_upd hf21 (hq_rng _))) rfl
    refine lv_aload_n hx hb dX1_addChange_38 rfl (lv_at hl 0 rfl) ?_
    refine lv_dup hx hb dX1_addChange_39 rfl ?_
    have fx25 : V22 (t) = some (.inr (1, [.ref (e_be), .ref (e_tr), .int (e_fd), .ref (e_st), .ref (e_en), .ref (e_wo), e_bk, e_an, e_mk, .int (e_sz), .ref (e_ki), .ref (e_mi), .ref (e_ta)])) := (o24 (t) (hq_tne h_t h_e_ta (by simp))).trans (fx17)
    refine hp_get (v := .int (e_sz)) hx hb hts hown hZ fx25 fl_X1_46 rfl dX1_addChange_40 ?_
    refine lv_iconst (v := 1) hx hb dX1_addChange_43 (by decide) ?_
    refine lv_iadd hx hb dX1_addChange_44 ?_
    refine lv_topi (fun y26 ey27 => ?_)
    obtain ⟨k28, hk29, b30, b31⟩ := hq_add (e_sz) (1)
    rw [← ey27] at hk29 b30 b31
    have hk29 : (y26).toInt = (e_sz).toInt + (1 : Int) + k28 * 4294967296 := hk29
    refine hp_put hx hb hts hown hZ fx25 fp_X1_46 rfl rfl (Nat.le_of_ble_eq_true rfl) dX1_addChange_45 (fun V32 _ _ e33 o34 hZ => ?_)
    have e33 : V32 (t) = some (.inr (1, [.ref (e_be), .ref (e_tr), .int (e_fd), .ref (e_st), .ref (e_en), .ref (e_wo), e_bk, e_an, e_mk, .int (y26), .ref (e_ki), .ref (e_mi), .ref (e_ta)])) := e33
    have hP := hP.put h_t e33 o34 (trivial) rfl
    exact hp_vret hx hb hr hlocks hZ ⟨rfl, hP, ⟨y26, e33, by omega⟩⟩ dX1_addChange_48

set_option maxHeartbeats 4000000 in
set_option maxRecDepth 100000 in
theorem t_X1_tell (l : Launch) (D : va_G) (cs : Nat → ClassId) (B : Nat) (G : hq_G) (V : hp_V) (n : Nat) (hI : hq_I cs G V) (t : Nat) (h_t : G t = some (14, 0, 0, 0)) {e_be e_tr e_st e_en e_wo e_ki e_mi e_ta : Nat} {e_fd e_sz : Int32} {e_bk e_an e_mk : Value} (ho_t : V t = some (.inr (1, [.ref (e_be), .ref (e_tr), .int (e_fd), .ref (e_st), .ref (e_en), .ref (e_wo), e_bk, e_an, e_mk, .int (e_sz), .ref (e_ki), .ref (e_mi), .ref (e_ta)]))) (h_e_be : G e_be = some (13, 0, 0, 0)) (h_e_tr : G e_tr = some (13, 0, 0, 0)) (h_e_st : G e_st = some (0, 30, 0, 0)) (h_e_en : G e_en = some (0, 30, 0, 0)) (h_e_wo : G e_wo = some (0, 30, 0, 0)) (h_e_ki : G e_ki = some (2, 8, 2, 0)) (h_e_mi : G e_mi = some (2, 8, 2, 0)) (h_e_ta : G e_ta = some (2, 8, 2, 0)) (hi_t0 : 0 ≤ e_fd.toInt ∧ e_fd.toInt ≤ 1) (hi_t1 : 0 ≤ e_sz.toInt ∧ e_sz.toInt ≤ 2) : hp_M l yX1_tell cX1_tell 1 none ({ frames := 2, cells := 0, slots := 0, locals := 44 }) D cs B V n [.ref (t)] (hp_QV D cs B (fun V' n' => n = n' ∧ hq_P cs G (fun g => g.1 == 8) V V' ∧ (∃ (e_sz1 : Int32), V' t = some (.inr (1, [.ref (e_be), .ref (e_tr), .int (e_fd), .ref (e_st), .ref (e_en), .ref (e_wo), e_bk, e_an, e_mk, .int (e_sz1), .ref (e_ki), .ref (e_mi), .ref (e_ta)])) ∧ (0 ≤ e_sz1.toInt ∧ e_sz1.toInt ≤ 2)))) 0 0 := by
  refine hp_walk (R0 := RX1) (by decide) rfl ?_ (Nat.le_of_ble_eq_true rfl)
  intro p e s m below meth c ls hx hb hr hts hown hlocks hin hml hZ hl
  have hP : hq_P cs G (fun g => g.1 == 8) V V := hq_P.rf hI
  have hl : lv_has ls 1 [(0, .ref (t))] := hl
  have hb_e_fd := hq_rng e_fd
  have hb_e_sz := hq_rng e_sz
  refine lv_aload_n hx hb dX1_tell_0 rfl (lv_at hl 0 rfl) ?_
  refine lv_iconst (v := 0) hx hb dX1_tell_1 (by decide) ?_
  refine hp_put hx hb hts hown hZ ho_t fp_X1_46 rfl rfl (Nat.le_of_ble_eq_true rfl) dX1_tell_2 (fun V1 _ _ e2 o3 hZ => ?_)
  have e2 : V1 (t) = some (.inr (1, [.ref (e_be), .ref (e_tr), .int (e_fd), .ref (e_st), .ref (e_en), .ref (e_wo), e_bk, e_an, e_mk, .int (0), .ref (e_ki), .ref (e_mi), .ref (e_ta)])) := e2
  have hP := hP.put h_t e2 o3 (trivial) rfl
  have jn29 : ∀ (V9 : hp_V) (H9 : Heap) (locs9 : List Loc) (ls : Array Slot)  (z29 : Int32), hp_Z D cs B s V9 H9 n locs9 → hq_P cs G (fun g => g.1 == 8) V V9 → V9 (t) = some (.inr (1, [.ref (e_be), .ref (e_tr), .int (e_fd), .ref (e_st), .ref (e_en), .ref (e_wo), e_bk, e_an, e_mk, .int (z29), .ref (e_ki), .ref (e_mi), .ref (e_ta)])) → 0 ≤ z29.toInt ∧ z29.toInt ≤ 2 → lv_has ls 1 [(0, .ref (t))] → W p l e ({ frames := 2, cells := 0, slots := 0, locals := 44 }) s m ([.ref (t)] : List Value).toArray below meth c H9 locs9 0 0 (MQ below (hp_QV D cs B (fun V' n' => n = n' ∧ hq_P cs G (fun g => g.1 == 8) V V' ∧ (∃ (e_sz1 : Int32), V' t = some (.inr (1, [.ref (e_be), .ref (e_tr), .int (e_fd), .ref (e_st), .ref (e_en), .ref (e_wo), e_bk, e_an, e_mk, .int (e_sz1), .ref (e_ki), .ref (e_mi), .ref (e_ta)])) ∧ (0 ≤ e_sz1.toInt ∧ e_sz1.toInt ≤ 2)))) ([.ref (t)] : List Value).toArray s 0 0 (hp_F B)) (F0 m 29 ls []) := by
    intro V9 H9 locs9 ls  z29 hZ hP ho4 hv5 hl
    have hb_z29 := hq_rng z29
    have hPj29 := hP
    have jn108 : ∀ (V9 : hp_V) (H9 : Heap) (locs9 : List Loc) (ls : Array Slot)  (z108 : Int32), hp_Z D cs B s V9 H9 n locs9 → hq_P cs G (fun g => g.1 == 8) V V9 → V9 (t) = some (.inr (1, [.ref (e_be), .ref (e_tr), .int (e_fd), .ref (e_st), .ref (e_en), .ref (e_wo), e_bk, e_an, e_mk, .int (z108), .ref (e_ki), .ref (e_mi), .ref (e_ta)])) → 0 ≤ z108.toInt ∧ z108.toInt ≤ 2 → lv_has ls 1 [(0, .ref (t))] → W p l e ({ frames := 2, cells := 0, slots := 0, locals := 44 }) s m ([.ref (t)] : List Value).toArray below meth c H9 locs9 0 0 (MQ below (hp_QV D cs B (fun V' n' => n = n' ∧ hq_P cs G (fun g => g.1 == 8) V V' ∧ (∃ (e_sz1 : Int32), V' t = some (.inr (1, [.ref (e_be), .ref (e_tr), .int (e_fd), .ref (e_st), .ref (e_en), .ref (e_wo), e_bk, e_an, e_mk, .int (e_sz1), .ref (e_ki), .ref (e_mi), .ref (e_ta)])) ∧ (0 ≤ e_sz1.toInt ∧ e_sz1.toInt ≤ 2)))) ([.ref (t)] : List Value).toArray s 0 0 (hp_F B)) (F0 m 108 ls []) := by
      intro V9 H9 locs9 ls  z108 hZ hP ho6 hv7 hl
      have hb_z108 := hq_rng z108
      have hPj108 := hP
      have jn188 : ∀ (V9 : hp_V) (H9 : Heap) (locs9 : List Loc) (ls : Array Slot)  (z188 : Int32), hp_Z D cs B s V9 H9 n locs9 → hq_P cs G (fun g => g.1 == 8) V V9 → V9 (t) = some (.inr (1, [.ref (e_be), .ref (e_tr), .int (e_fd), .ref (e_st), .ref (e_en), .ref (e_wo), e_bk, e_an, e_mk, .int (z188), .ref (e_ki), .ref (e_mi), .ref (e_ta)])) → 0 ≤ z188.toInt ∧ z188.toInt ≤ 2 → lv_has ls 1 [(0, .ref (t))] → W p l e ({ frames := 2, cells := 0, slots := 0, locals := 44 }) s m ([.ref (t)] : List Value).toArray below meth c H9 locs9 0 0 (MQ below (hp_QV D cs B (fun V' n' => n = n' ∧ hq_P cs G (fun g => g.1 == 8) V V' ∧ (∃ (e_sz1 : Int32), V' t = some (.inr (1, [.ref (e_be), .ref (e_tr), .int (e_fd), .ref (e_st), .ref (e_en), .ref (e_wo), e_bk, e_an, e_mk, .int (e_sz1), .ref (e_ki), .ref (e_mi), .ref (e_ta)])) ∧ (0 ≤ e_sz1.toInt ∧ e_sz1.toInt ≤ 2)))) ([.ref (t)] : List Value).toArray s 0 0 (hp_F B)) (F0 m 188 ls []) := by
        intro V9 H9 locs9 ls  z188 hZ hP ho8 hv9 hl
        have hb_z188 := hq_rng z188
        have hPj188 := hP
        have jn212 : ∀ (V9 : hp_V) (H9 : Heap) (locs9 : List Loc) (ls : Array Slot)  (z212 : Int32), hp_Z D cs B s V9 H9 n locs9 → hq_P cs G (fun g => g.1 == 8) V V9 → V9 (t) = some (.inr (1, [.ref (e_be), .ref (e_tr), .int (e_fd), .ref (e_st), .ref (e_en), .ref (e_wo), e_bk, e_an, e_mk, .int (z212), .ref (e_ki), .ref (e_mi), .ref (e_ta)])) → 0 ≤ z212.toInt ∧ z212.toInt ≤ 2 → lv_has ls 1 [(0, .ref (t))] → W p l e ({ frames := 2, cells := 0, slots := 0, locals := 44 }) s m ([.ref (t)] : List Value).toArray below meth c H9 locs9 0 0 (MQ below (hp_QV D cs B (fun V' n' => n = n' ∧ hq_P cs G (fun g => g.1 == 8) V V' ∧ (∃ (e_sz1 : Int32), V' t = some (.inr (1, [.ref (e_be), .ref (e_tr), .int (e_fd), .ref (e_st), .ref (e_en), .ref (e_wo), e_bk, e_an, e_mk, .int (e_sz1), .ref (e_ki), .ref (e_mi), .ref (e_ta)])) ∧ (0 ≤ e_sz1.toInt ∧ e_sz1.toInt ≤ 2)))) ([.ref (t)] : List Value).toArray s 0 0 (hp_F B)) (F0 m 212 ls []) := by
          intro V9 H9 locs9 ls  z212 hZ hP ho10 hv11 hl
          have hb_z212 := hq_rng z212
          have hPj212 := hP
          refine lv_aload_n hx hb dX1_tell_212 rfl (lv_at hl 0 rfl) ?_
          refine hp_get (v := .ref (e_be)) hx hb hts hown hZ ho10 fl_X1_12 rfl dX1_tell_213 ?_
          obtain ⟨z13, z14, z15, z16, z17, z18, z19, eV12, h20, h21⟩ := hq_o13 hP.1 h_e_be
          refine hp_get (v := .int (z19)) hx hb hts hown hZ eV12 fl_X1_117 rfl dX1_tell_216 ?_
          refine lv_iconst (v := -1) hx hb dX1_tell_219 (by decide) ?_
          refine lv_icmp_eq (tgt := 236) hx hb dX1_tell_220 (by decide) (fun c22 => ?_) (fun c22 => ?_)
          · have c22 : (z19).toInt = (-1 : Int) := hq_eqi.mp c22
            exact hp_vret hx hb hr hlocks hZ ⟨rfl, hP, ⟨z212, ho10, by omega⟩⟩ dX1_tell_236
          · have c22 : ¬ (z19).toInt = (-1 : Int) := fun h9 => c22 (hq_eqi.mpr h9)
            refine lv_aload_n hx hb dX1_tell_223 rfl (lv_at hl 0 rfl) ?_
            refine lv_iconst (v := 5) hx hb dX1_tell_224 (by decide) ?_
            refine lv_aload_n hx hb dX1_tell_225 rfl (lv_at hl 0 rfl) ?_
            refine hp_get (v := .ref (e_be)) hx hb hts hown hZ ho10 fl_X1_12 rfl dX1_tell_226 ?_
            refine hp_get (v := .int (z19)) hx hb hts hown hZ eV12 fl_X1_117 rfl dX1_tell_229 ?_
            refine lv_iconst (v := -1) hx hb dX1_tell_232 (by decide) ?_
            have hl32 : (5 : Int32).toInt = 5 := by decide
            have hl33 : (-1 : Int32).toInt = -1 := by decide
            refine hp_callv (hp_runV (As := [.int (5), .int (z19), .int (-1)]) (rest := []) hx hb hml hown hts (t_X1_addChange l D cs B G  V9 n hP.1  (t) h_t (5) (z19) (-1) ho10 h_e_be h_e_tr h_e_st h_e_en h_e_wo h_e_ki h_e_mi h_e_ta (by omega) (by omega) ) hZ ho10 cv_X1_166 rfl rfl ⟨Nat.le_of_ble_eq_true rfl, Nat.le_of_ble_eq_true rfl⟩ rfl hl.1 rfl (Nat.le_of_ble_eq_true rfl) dX1_tell_233 ⟨(Nat.le_of_ble_eq_true rfl), (Nat.le_of_ble_eq_true rfl)⟩) hZ (fun V23 n24 _ _ hw25 hZ => ?_)
            obtain ⟨rfl, hq27, ⟨z29, ho30, hi31⟩⟩ := hw25
            have hP := hP.trans hq27 (by intro g h; simp_all)
            have b34 := hq_rng z29
            exact hp_vret hx hb hr hlocks hZ ⟨rfl, hP, ⟨z29, ho30, by omega⟩⟩ dX1_tell_236
        refine lv_aload_n hx hb dX1_tell_188 rfl (lv_at hl 0 rfl) ?_
        refine hp_get (v := .ref (e_be)) hx hb hts hown hZ ho8 fl_X1_12 rfl dX1_tell_189 ?_
        obtain ⟨z36, z37, z38, z39, z40, z41, z42, eV35, h43, h44⟩ := hq_o13 hP.1 h_e_be
        refine hp_get (v := .int (z41)) hx hb hts hown hZ eV35 fl_X1_114 rfl dX1_tell_192 ?_
        refine lv_iconst (v := -1) hx hb dX1_tell_195 (by decide) ?_
        refine lv_icmp_eq (tgt := 212) hx hb dX1_tell_196 (by decide) (fun c45 => ?_) (fun c45 => ?_)
        · have c45 : (z41).toInt = (-1 : Int) := hq_eqi.mp c45
          exact jn212 _ _ _ ls (z188) hZ hP ho8 (by omega) (lv_sub hl [0] rfl)
        · have c45 : ¬ (z41).toInt = (-1 : Int) := fun h9 => c45 (hq_eqi.mpr h9)
          refine lv_aload_n hx hb dX1_tell_199 rfl (lv_at hl 0 rfl) ?_
          refine lv_iconst (v := 5) hx hb dX1_tell_200 (by decide) ?_
          refine lv_aload_n hx hb dX1_tell_201 rfl (lv_at hl 0 rfl) ?_
          refine hp_get (v := .ref (e_be)) hx hb hts hown hZ ho8 fl_X1_12 rfl dX1_tell_202 ?_
          refine hp_get (v := .int (z41)) hx hb hts hown hZ eV35 fl_X1_114 rfl dX1_tell_205 ?_
          refine lv_iconst (v := -1) hx hb dX1_tell_208 (by decide) ?_
          have hl55 : (5 : Int32).toInt = 5 := by decide
          have hl56 : (-1 : Int32).toInt = -1 := by decide
          refine hp_callv (hp_runV (As := [.int (5), .int (z41), .int (-1)]) (rest := []) hx hb hml hown hts (t_X1_addChange l D cs B G  V9 n hP.1  (t) h_t (5) (z41) (-1) ho8 h_e_be h_e_tr h_e_st h_e_en h_e_wo h_e_ki h_e_mi h_e_ta (by omega) (by omega) ) hZ ho8 cv_X1_166 rfl rfl ⟨Nat.le_of_ble_eq_true rfl, Nat.le_of_ble_eq_true rfl⟩ rfl hl.1 rfl (Nat.le_of_ble_eq_true rfl) dX1_tell_209 ⟨(Nat.le_of_ble_eq_true rfl), (Nat.le_of_ble_eq_true rfl)⟩) hZ (fun V46 n47 _ _ hw48 hZ => ?_)
          obtain ⟨rfl, hq50, ⟨z52, ho53, hi54⟩⟩ := hw48
          have hP := hP.trans hq50 (by intro g h; simp_all)
          have b57 := hq_rng z52
          exact jn212 _ _ _ ls (z52) hZ hP ho53 (by omega) (lv_sub hl [0] rfl)
      refine lv_aload_n hx hb dX1_tell_108 rfl (lv_at hl 0 rfl) ?_
      refine hp_get (v := .ref (e_be)) hx hb hts hown hZ ho6 fl_X1_12 rfl dX1_tell_109 ?_
      obtain ⟨z59, z60, z61, z62, z63, z64, z65, eV58, h66, h67⟩ := hq_o13 hP.1 h_e_be
      refine hp_get (v := .int (z63)) hx hb hts hown hZ eV58 fl_X1_111 rfl dX1_tell_112 ?_
      refine lv_bipush (v := 60) hx hb dX1_tell_115 (by decide) ?_
      refine lv_icmp_ne (tgt := 136) hx hb dX1_tell_117 (by decide) (fun c68 => ?_) (fun c68 => ?_)
      · have c68 : ¬ (z63).toInt = (60 : Int) := fun h9 => c68 (hq_eqi.mpr h9)
        refine lv_aload_n hx hb dX1_tell_136 rfl (lv_at hl 0 rfl) ?_
        refine hp_get (v := .ref (e_be)) hx hb hts hown hZ ho6 fl_X1_12 rfl dX1_tell_137 ?_
        refine hp_get (v := .int (z63)) hx hb hts hown hZ eV58 fl_X1_111 rfl dX1_tell_140 ?_
        refine lv_bipush (v := -2) hx hb dX1_tell_143 (by decide) ?_
        refine lv_icmp_eq (tgt := 188) hx hb dX1_tell_145 (by decide) (fun c69 => ?_) (fun c69 => ?_)
        · have c69 : (z63).toInt = (-2 : Int) := hq_eqi.mp c69
          exact jn188 _ _ _ ls (z108) hZ hP ho6 (by omega) (lv_sub hl [0] rfl)
        · have c69 : ¬ (z63).toInt = (-2 : Int) := fun h9 => c69 (hq_eqi.mpr h9)
          refine lv_aload_n hx hb dX1_tell_148 rfl (lv_at hl 0 rfl) ?_
          refine lv_iconst (v := 3) hx hb dX1_tell_149 (by decide) ?_
          refine lv_aload_n hx hb dX1_tell_150 rfl (lv_at hl 0 rfl) ?_
          refine hp_get (v := .ref (e_be)) hx hb hts hown hZ ho6 fl_X1_12 rfl dX1_tell_151 ?_
          refine hp_get (v := .int (z61)) hx hb hts hown hZ eV58 fl_X1_73 rfl dX1_tell_154 ?_
          refine lv_iconst (v := -1) hx hb dX1_tell_157 (by decide) ?_
          refine lv_icmp_ne (tgt := 171) hx hb dX1_tell_158 (by decide) (fun c70 => ?_) (fun c70 => ?_)
          · have c70 : ¬ (z61).toInt = (-1 : Int) := fun h9 => c70 (hq_eqi.mpr h9)
            refine lv_aload_n hx hb dX1_tell_171 rfl (lv_at hl 0 rfl) ?_
            refine hp_get (v := .ref (e_be)) hx hb hts hown hZ ho6 fl_X1_12 rfl dX1_tell_172 ?_
            refine hp_get (v := .int (z61)) hx hb hts hown hZ eV58 fl_X1_73 rfl dX1_tell_175 ?_
            refine lv_aload_n hx hb dX1_tell_178 rfl (lv_at hl 0 rfl) ?_
            refine hp_get (v := .ref (e_be)) hx hb hts hown hZ ho6 fl_X1_12 rfl dX1_tell_179 ?_
            refine hp_get (v := .int (z63)) hx hb hts hown hZ eV58 fl_X1_111 rfl dX1_tell_182 ?_
            have hl80 : (3 : Int32).toInt = 3 := by decide
            refine hp_callv (hp_runV (As := [.int (3), .int (z61), .int (z63)]) (rest := []) hx hb hml hown hts (t_X1_addChange l D cs B G  V9 n hP.1  (t) h_t (3) (z61) (z63) ho6 h_e_be h_e_tr h_e_st h_e_en h_e_wo h_e_ki h_e_mi h_e_ta (by omega) (by omega) ) hZ ho6 cv_X1_166 rfl rfl ⟨Nat.le_of_ble_eq_true rfl, Nat.le_of_ble_eq_true rfl⟩ rfl hl.1 rfl (Nat.le_of_ble_eq_true rfl) dX1_tell_185 ⟨(Nat.le_of_ble_eq_true rfl), (Nat.le_of_ble_eq_true rfl)⟩) hZ (fun V71 n72 _ _ hw73 hZ => ?_)
            obtain ⟨rfl, hq75, ⟨z77, ho78, hi79⟩⟩ := hw73
            have hP := hP.trans hq75 (by intro g h; simp_all)
            have b81 := hq_rng z77
            exact jn188 _ _ _ ls (z77) hZ hP ho78 (by omega) (lv_sub hl [0] rfl)
          · have c70 : (z61).toInt = (-1 : Int) := hq_eqi.mp c70
            refine lv_aload_n hx hb dX1_tell_161 rfl (lv_at hl 0 rfl) ?_
            refine hp_get (v := .ref (e_be)) hx hb hts hown hZ ho6 fl_X1_12 rfl dX1_tell_162 ?_
            refine hp_get (v := .int (z63)) hx hb hts hown hZ eV58 fl_X1_111 rfl dX1_tell_165 ?_
            refine lv_goto (tgt := 178) hx hb dX1_tell_168 (by decide) ?_
            refine lv_aload_n hx hb dX1_tell_178 rfl (lv_at hl 0 rfl) ?_
            refine hp_get (v := .ref (e_be)) hx hb hts hown hZ ho6 fl_X1_12 rfl dX1_tell_179 ?_
            refine hp_get (v := .int (z63)) hx hb hts hown hZ eV58 fl_X1_111 rfl dX1_tell_182 ?_
            have hl91 : (3 : Int32).toInt = 3 := by decide
            refine hp_callv (hp_runV (As := [.int (3), .int (z63), .int (z63)]) (rest := []) hx hb hml hown hts (t_X1_addChange l D cs B G  V9 n hP.1  (t) h_t (3) (z63) (z63) ho6 h_e_be h_e_tr h_e_st h_e_en h_e_wo h_e_ki h_e_mi h_e_ta (by omega) (by omega) ) hZ ho6 cv_X1_166 rfl rfl ⟨Nat.le_of_ble_eq_true rfl, Nat.le_of_ble_eq_true rfl⟩ rfl hl.1 rfl (Nat.le_of_ble_eq_true rfl) dX1_tell_185 ⟨(Nat.le_of_ble_eq_true rfl), (Nat.le_of_ble_eq_true rfl)⟩) hZ (fun V82 n83 _ _ hw84 hZ => ?_)
            obtain ⟨rfl, hq86, ⟨z88, ho89, hi90⟩⟩ := hw84
            have hP := hP.trans hq86 (by intro g h; simp_all)
            have b92 := hq_rng z88
            exact jn188 _ _ _ ls (z88) hZ hP ho89 (by omega) (lv_sub hl [0] rfl)
      · have c68 : (z63).toInt = (60 : Int) := hq_eqi.mp c68
        refine lv_aload_n hx hb dX1_tell_120 rfl (lv_at hl 0 rfl) ?_
        refine lv_iconst (v := 4) hx hb dX1_tell_121 (by decide) ?_
        refine lv_aload_n hx hb dX1_tell_122 rfl (lv_at hl 0 rfl) ?_
        refine hp_get (v := .ref (e_be)) hx hb hts hown hZ ho6 fl_X1_12 rfl dX1_tell_123 ?_
        refine hp_get (v := .int (z61)) hx hb hts hown hZ eV58 fl_X1_73 rfl dX1_tell_126 ?_
        refine lv_iconst (v := -1) hx hb dX1_tell_129 (by decide) ?_
        have hl102 : (4 : Int32).toInt = 4 := by decide
        have hl103 : (-1 : Int32).toInt = -1 := by decide
        refine hp_callv (hp_runV (As := [.int (4), .int (z61), .int (-1)]) (rest := []) hx hb hml hown hts (t_X1_addChange l D cs B G  V9 n hP.1  (t) h_t (4) (z61) (-1) ho6 h_e_be h_e_tr h_e_st h_e_en h_e_wo h_e_ki h_e_mi h_e_ta (by omega) (by omega) ) hZ ho6 cv_X1_166 rfl rfl ⟨Nat.le_of_ble_eq_true rfl, Nat.le_of_ble_eq_true rfl⟩ rfl hl.1 rfl (Nat.le_of_ble_eq_true rfl) dX1_tell_130 ⟨(Nat.le_of_ble_eq_true rfl), (Nat.le_of_ble_eq_true rfl)⟩) hZ (fun V93 n94 _ _ hw95 hZ => ?_)
        obtain ⟨rfl, hq97, ⟨z99, ho100, hi101⟩⟩ := hw95
        have hP := hP.trans hq97 (by intro g h; simp_all)
        have b104 := hq_rng z99
        refine lv_goto (tgt := 188) hx hb dX1_tell_133 (by decide) ?_
        exact jn188 _ _ _ ls (z99) hZ hP ho100 (by omega) (lv_sub hl [0] rfl)
    refine lv_aload_n hx hb dX1_tell_29 rfl (lv_at hl 0 rfl) ?_
    refine hp_get (v := .ref (e_be)) hx hb hts hown hZ ho4 fl_X1_12 rfl dX1_tell_30 ?_
    obtain ⟨z106, z107, z108, z109, z110, z111, z112, eV105, h113, h114⟩ := hq_o13 hP.1 h_e_be
    refine hp_get (v := .int (z109)) hx hb hts hown hZ eV105 fl_X1_101 rfl dX1_tell_33 ?_
    refine lv_iconst (v := -1) hx hb dX1_tell_36 (by decide) ?_
    refine lv_icmp_ne (tgt := 56) hx hb dX1_tell_37 (by decide) (fun c115 => ?_) (fun c115 => ?_)
    · have c115 : ¬ (z109).toInt = (-1 : Int) := fun h9 => c115 (hq_eqi.mpr h9)
      refine lv_aload_n hx hb dX1_tell_56 rfl (lv_at hl 0 rfl) ?_
      refine hp_get (v := .ref (e_be)) hx hb hts hown hZ ho4 fl_X1_12 rfl dX1_tell_57 ?_
      refine hp_get (v := .int (z109)) hx hb hts hown hZ eV105 fl_X1_101 rfl dX1_tell_60 ?_
      refine lv_bipush (v := -2) hx hb dX1_tell_63 (by decide) ?_
      refine lv_icmp_eq (tgt := 108) hx hb dX1_tell_65 (by decide) (fun c116 => ?_) (fun c116 => ?_)
      · have c116 : (z109).toInt = (-2 : Int) := hq_eqi.mp c116
        exact jn108 _ _ _ ls (z29) hZ hP ho4 (by omega) (lv_sub hl [0] rfl)
      · have c116 : ¬ (z109).toInt = (-2 : Int) := fun h9 => c116 (hq_eqi.mpr h9)
        refine lv_aload_n hx hb dX1_tell_68 rfl (lv_at hl 0 rfl) ?_
        refine lv_iconst (v := 2) hx hb dX1_tell_69 (by decide) ?_
        refine lv_aload_n hx hb dX1_tell_70 rfl (lv_at hl 0 rfl) ?_
        refine hp_get (v := .ref (e_be)) hx hb hts hown hZ ho4 fl_X1_12 rfl dX1_tell_71 ?_
        refine hp_get (v := .int (z107)) hx hb hts hown hZ eV105 fl_X1_70 rfl dX1_tell_74 ?_
        refine lv_iconst (v := -1) hx hb dX1_tell_77 (by decide) ?_
        refine lv_icmp_ne (tgt := 91) hx hb dX1_tell_78 (by decide) (fun c117 => ?_) (fun c117 => ?_)
        · have c117 : ¬ (z107).toInt = (-1 : Int) := fun h9 => c117 (hq_eqi.mpr h9)
          refine lv_aload_n hx hb dX1_tell_91 rfl (lv_at hl 0 rfl) ?_
          refine hp_get (v := .ref (e_be)) hx hb hts hown hZ ho4 fl_X1_12 rfl dX1_tell_92 ?_
          refine hp_get (v := .int (z107)) hx hb hts hown hZ eV105 fl_X1_70 rfl dX1_tell_95 ?_
          refine lv_aload_n hx hb dX1_tell_98 rfl (lv_at hl 0 rfl) ?_
          refine hp_get (v := .ref (e_be)) hx hb hts hown hZ ho4 fl_X1_12 rfl dX1_tell_99 ?_
          refine hp_get (v := .int (z109)) hx hb hts hown hZ eV105 fl_X1_101 rfl dX1_tell_102 ?_
          have hl127 : (2 : Int32).toInt = 2 := by decide
          refine hp_callv (hp_runV (As := [.int (2), .int (z107), .int (z109)]) (rest := []) hx hb hml hown hts (t_X1_addChange l D cs B G  V9 n hP.1  (t) h_t (2) (z107) (z109) ho4 h_e_be h_e_tr h_e_st h_e_en h_e_wo h_e_ki h_e_mi h_e_ta (by omega) (by omega) ) hZ ho4 cv_X1_166 rfl rfl ⟨Nat.le_of_ble_eq_true rfl, Nat.le_of_ble_eq_true rfl⟩ rfl hl.1 rfl (Nat.le_of_ble_eq_true rfl) dX1_tell_105 ⟨(Nat.le_of_ble_eq_true rfl), (Nat.le_of_ble_eq_true rfl)⟩) hZ (fun V118 n119 _ _ hw120 hZ => ?_)
          obtain ⟨rfl, hq122, ⟨z124, ho125, hi126⟩⟩ := hw120
          have hP := hP.trans hq122 (by intro g h; simp_all)
          have b128 := hq_rng z124
          exact jn108 _ _ _ ls (z124) hZ hP ho125 (by omega) (lv_sub hl [0] rfl)
        · have c117 : (z107).toInt = (-1 : Int) := hq_eqi.mp c117
          refine lv_aload_n hx hb dX1_tell_81 rfl (lv_at hl 0 rfl) ?_
          refine hp_get (v := .ref (e_be)) hx hb hts hown hZ ho4 fl_X1_12 rfl dX1_tell_82 ?_
          refine hp_get (v := .int (z109)) hx hb hts hown hZ eV105 fl_X1_101 rfl dX1_tell_85 ?_
          refine lv_goto (tgt := 98) hx hb dX1_tell_88 (by decide) ?_
          refine lv_aload_n hx hb dX1_tell_98 rfl (lv_at hl 0 rfl) ?_
          refine hp_get (v := .ref (e_be)) hx hb hts hown hZ ho4 fl_X1_12 rfl dX1_tell_99 ?_
          refine hp_get (v := .int (z109)) hx hb hts hown hZ eV105 fl_X1_101 rfl dX1_tell_102 ?_
          have hl138 : (2 : Int32).toInt = 2 := by decide
          refine hp_callv (hp_runV (As := [.int (2), .int (z109), .int (z109)]) (rest := []) hx hb hml hown hts (t_X1_addChange l D cs B G  V9 n hP.1  (t) h_t (2) (z109) (z109) ho4 h_e_be h_e_tr h_e_st h_e_en h_e_wo h_e_ki h_e_mi h_e_ta (by omega) (by omega) ) hZ ho4 cv_X1_166 rfl rfl ⟨Nat.le_of_ble_eq_true rfl, Nat.le_of_ble_eq_true rfl⟩ rfl hl.1 rfl (Nat.le_of_ble_eq_true rfl) dX1_tell_105 ⟨(Nat.le_of_ble_eq_true rfl), (Nat.le_of_ble_eq_true rfl)⟩) hZ (fun V129 n130 _ _ hw131 hZ => ?_)
          obtain ⟨rfl, hq133, ⟨z135, ho136, hi137⟩⟩ := hw131
          have hP := hP.trans hq133 (by intro g h; simp_all)
          have b139 := hq_rng z135
          exact jn108 _ _ _ ls (z135) hZ hP ho136 (by omega) (lv_sub hl [0] rfl)
    · have c115 : (z109).toInt = (-1 : Int) := hq_eqi.mp c115
      refine lv_aload_n hx hb dX1_tell_40 rfl (lv_at hl 0 rfl) ?_
      refine lv_iconst (v := 1) hx hb dX1_tell_41 (by decide) ?_
      refine lv_aload_n hx hb dX1_tell_42 rfl (lv_at hl 0 rfl) ?_
      refine hp_get (v := .ref (e_be)) hx hb hts hown hZ ho4 fl_X1_12 rfl dX1_tell_43 ?_
      refine hp_get (v := .int (z107)) hx hb hts hown hZ eV105 fl_X1_70 rfl dX1_tell_46 ?_
      refine lv_iconst (v := -1) hx hb dX1_tell_49 (by decide) ?_
      have hl149 : (1 : Int32).toInt = 1 := by decide
      have hl150 : (-1 : Int32).toInt = -1 := by decide
      refine hp_callv (hp_runV (As := [.int (1), .int (z107), .int (-1)]) (rest := []) hx hb hml hown hts (t_X1_addChange l D cs B G  V9 n hP.1  (t) h_t (1) (z107) (-1) ho4 h_e_be h_e_tr h_e_st h_e_en h_e_wo h_e_ki h_e_mi h_e_ta (by omega) (by omega) ) hZ ho4 cv_X1_166 rfl rfl ⟨Nat.le_of_ble_eq_true rfl, Nat.le_of_ble_eq_true rfl⟩ rfl hl.1 rfl (Nat.le_of_ble_eq_true rfl) dX1_tell_50 ⟨(Nat.le_of_ble_eq_true rfl), (Nat.le_of_ble_eq_true rfl)⟩) hZ (fun V140 n141 _ _ hw142 hZ => ?_)
      obtain ⟨rfl, hq144, ⟨z146, ho147, hi148⟩⟩ := hw142
      have hP := hP.trans hq144 (by intro g h; simp_all)
      have b151 := hq_rng z146
      refine lv_goto (tgt := 108) hx hb dX1_tell_53 (by decide) ?_
      exact jn108 _ _ _ ls (z146) hZ hP ho147 (by omega) (lv_sub hl [0] rfl)
  refine lv_aload_n hx hb dX1_tell_5 rfl (lv_at hl 0 rfl) ?_
  refine hp_get (v := .ref (e_be)) hx hb hts hown hZ e2 fl_X1_12 rfl dX1_tell_6 ?_
  obtain ⟨z153, z154, z155, z156, z157, z158, z159, eV152, h160, h161⟩ := hq_o13 hP.1 h_e_be
  refine hp_get (v := .int (z153)) hx hb hts hown hZ eV152 fl_X1_67 rfl dX1_tell_9 ?_
  refine lv_iconst (v := -1) hx hb dX1_tell_12 (by decide) ?_
  refine lv_icmp_eq (tgt := 29) hx hb dX1_tell_13 (by decide) (fun c162 => ?_) (fun c162 => ?_)
  · have c162 : (z153).toInt = (-1 : Int) := hq_eqi.mp c162
    have hl163 : (0 : Int32).toInt = 0 := by decide
    exact jn29 _ _ _ ls (0) hZ hP e2 (by omega) (lv_sub hl [0] rfl)
  · have c162 : ¬ (z153).toInt = (-1 : Int) := fun h9 => c162 (hq_eqi.mpr h9)
    refine lv_aload_n hx hb dX1_tell_16 rfl (lv_at hl 0 rfl) ?_
    refine lv_iconst (v := 0) hx hb dX1_tell_17 (by decide) ?_
    refine lv_aload_n hx hb dX1_tell_18 rfl (lv_at hl 0 rfl) ?_
    refine hp_get (v := .ref (e_be)) hx hb hts hown hZ e2 fl_X1_12 rfl dX1_tell_19 ?_
    refine hp_get (v := .int (z153)) hx hb hts hown hZ eV152 fl_X1_67 rfl dX1_tell_22 ?_
    refine lv_iconst (v := -1) hx hb dX1_tell_25 (by decide) ?_
    have hl170 : (0 : Int32).toInt = 0 := by decide
    have hl174 : (0 : Int32).toInt = 0 := by decide
    have hl175 : (-1 : Int32).toInt = -1 := by decide
    refine hp_callv (hp_runV (As := [.int (0), .int (z153), .int (-1)]) (rest := []) hx hb hml hown hts (t_X1_addChange l D cs B G  V1 n hP.1  (t) h_t (0) (z153) (-1) e2 h_e_be h_e_tr h_e_st h_e_en h_e_wo h_e_ki h_e_mi h_e_ta (by omega) (by omega) ) hZ e2 cv_X1_166 rfl rfl ⟨Nat.le_of_ble_eq_true rfl, Nat.le_of_ble_eq_true rfl⟩ rfl hl.1 rfl (Nat.le_of_ble_eq_true rfl) dX1_tell_26 ⟨(Nat.le_of_ble_eq_true rfl), (Nat.le_of_ble_eq_true rfl)⟩) hZ (fun V164 n165 _ _ hw166 hZ => ?_)
    obtain ⟨rfl, hq168, ⟨z171, ho172, hi173⟩⟩ := hw166
    have hP := hP.trans hq168 (by intro g h; simp_all)
    have b176 := hq_rng z171
    exact jn29 _ _ _ ls (z171) hZ hP ho172 (by omega) (lv_sub hl [0] rfl)

set_option maxHeartbeats 4000000 in
set_option maxRecDepth 100000 in
theorem t_X1_isOther (l : Launch) (D : va_G) (cs : Nat → ClassId) (B : Nat) (G : hq_G) (V : hp_V) (n : Nat) (hI : hq_I cs G V) (b : Nat) (t : Nat) (h_t : G t = some (14, 0, 0, 0)) (k : Int32) (k1 : Int32) (k2 : Int32) {e_be e_tr e_st e_en e_wo e_bk e_an e_mk e_ki e_mi e_ta : Nat} {e_fd e_sz : Int32} (ho_t : V t = some (.inr (1, [.ref (e_be), .ref (e_tr), .int (e_fd), .ref (e_st), .ref (e_en), .ref (e_wo), .ref (e_bk), .ref (e_an), .ref (e_mk), .int (e_sz), .ref (e_ki), .ref (e_mi), .ref (e_ta)]))) (h_e_be : G e_be = some (13, 0, 0, 0)) (h_e_tr : G e_tr = some (13, 0, 0, 0)) (h_e_st : G e_st = some (0, 30, 0, 0)) (h_e_en : G e_en = some (0, 30, 0, 0)) (h_e_wo : G e_wo = some (0, 30, 0, 0)) (h_e_bk : G e_bk = some (6, b, 0, 0)) (h_e_an : G e_an = some (0, 4000, 0, 0)) (h_e_mk : G e_mk = some (11, 0, 0, 0)) (h_e_ki : G e_ki = some (2, 8, 2, 0)) (h_e_mi : G e_mi = some (2, 8, 2, 0)) (h_e_ta : G e_ta = some (2, 8, 2, 0)) (hi_t0 : 0 ≤ e_fd.toInt ∧ e_fd.toInt ≤ 1) (hi_t1 : 0 ≤ e_sz.toInt ∧ e_sz.toInt ≤ 2) : hp_M l yX1_isOther cX1_isOther 4 (some .boolean) ({ frames := 1, cells := 0, slots := 0, locals := 21 }) D cs B V n [.ref (t), .int (k), .int (k1), .int (k2)] (hp_QI D cs B (fun r V' n' => n = n' ∧ hq_P cs G (fun _ => false) V V' ∧ (V' t = some (.inr (1, [.ref (e_be), .ref (e_tr), .int (e_fd), .ref (e_st), .ref (e_en), .ref (e_wo), .ref (e_bk), .ref (e_an), .ref (e_mk), .int (e_sz), .ref (e_ki), .ref (e_mi), .ref (e_ta)]))) ∧ (r.toInt = 0 ∨ (r.toInt = 1 ∧ 0 ≤ k.toInt ∧ k.toInt < 60)))) 0 0 := by
  refine hp_walk (R0 := RX1) (by decide) rfl ?_ (Nat.le_of_ble_eq_true rfl)
  intro p e s m below meth c ls hx hb hr hts hown hlocks hin hml hZ hl
  have hP : hq_P cs G (fun _ => false) V V := hq_P.rf hI
  have hl : lv_has ls 4 [(0, .ref (t)), (1, .int (k)), (2, .int (k1)), (3, .int (k2))] := hl
  have hb_k := hq_rng k
  have hb_k1 := hq_rng k1
  have hb_k2 := hq_rng k2
  have hb_e_fd := hq_rng e_fd
  have hb_e_sz := hq_rng e_sz
  refine lv_iload_n hx hb dX1_isOther_0 rfl (lv_at hl 1 rfl) ?_
  refine lv_if_lt (tgt := 40) hx hb dX1_isOther_1 (by decide) (fun c1 => ?_) (fun c1 => ?_)
  · have c1 : (k).toInt < (0 : Int) := hq_lti.mp c1
    refine lv_iconst (v := 0) hx hb dX1_isOther_40 (by decide) ?_
    exact hp_zret hx hb hr rfl hlocks hZ ⟨rfl, hP, ho_t, (Or.inl (by decide))⟩ dX1_isOther_41
  · have c1 : ¬ (k).toInt < (0 : Int) := fun h9 => c1 (hq_lti.mpr h9)
    refine lv_iload_n hx hb dX1_isOther_4 rfl (lv_at hl 1 rfl) ?_
    refine lv_aload_n hx hb dX1_isOther_5 rfl (lv_at hl 0 rfl) ?_
    refine hp_get (v := .ref (e_bk)) hx hb hts hown hZ ho_t fl_X1_50 rfl dX1_isOther_6 ?_
    obtain ⟨u3, u4, u5, u6, z7, z8, z9, eV2, hu10, hu11, hu12, hu13, ⟨h14, h15⟩, ⟨h16, h17⟩, h18, h19⟩ := hq_o6 hP.1 h_e_bk
    refine hp_get (v := .int (z9)) hx hb hts hown hZ eV2 fl_X1_80 rfl dX1_isOther_9 ?_
    refine lv_icmp_ge (tgt := 40) hx hb dX1_isOther_12 (by decide) (fun c20 => ?_) (fun c20 => ?_)
    · have c20 : (z9).toInt ≤ (k).toInt := hq_lei.mp c20
      refine lv_iconst (v := 0) hx hb dX1_isOther_40 (by decide) ?_
      exact hp_zret hx hb hr rfl hlocks hZ ⟨rfl, hP, ho_t, (Or.inl (by decide))⟩ dX1_isOther_41
    · have c20 : ¬ (z9).toInt ≤ (k).toInt := fun h9 => c20 (hq_lei.mpr h9)
      refine lv_aload_n hx hb dX1_isOther_15 rfl (lv_at hl 0 rfl) ?_
      refine hp_get (v := .ref (e_bk)) hx hb hts hown hZ ho_t fl_X1_50 rfl dX1_isOther_16 ?_
      refine hp_get (v := .ref (u6)) hx hb hts hown hZ eV2 fl_X1_124 rfl dX1_isOther_19 ?_
      refine lv_iload_n hx hb dX1_isOther_22 rfl (lv_at hl 1 rfl) ?_
      obtain ⟨hN23, g22, eV21, hf24, _⟩ := hq_o4 hP.1 hu13
      obtain ⟨u25, hx26, hu27⟩ := hf24 (k : Int32).toNatClampNeg (hq_ix (by omega) (by omega))
      have hu27 : G u25 = some (5, b, 0, 0) := hu27
      refine hp_aald (v := .ref (u25)) hx hb hZ 6 eV21 rfl (hq_in (by omega) (by omega)) (by rw [hx26]; rfl) dX1_isOther_23 ?_
      obtain ⟨z29, z30, z31, z32, z33, z34, z35, z36, u37, u38, eV28, hu39, hu40, h41, h42⟩ := hq_o5 hP.1 hu27
      refine hp_get (v := .int (z29)) hx hb hts hown hZ eV28 fl_X1_137 rfl dX1_isOther_24 ?_
      refine lv_iload_n hx hb dX1_isOther_27 rfl (lv_at hl 2 rfl) ?_
      refine lv_icmp_ne (tgt := 40) hx hb dX1_isOther_28 (by decide) (fun c43 => ?_) (fun c43 => ?_)
      · have c43 : ¬ (z29).toInt = (k1).toInt := fun h9 => c43 (hq_eqi.mpr h9)
        refine lv_iconst (v := 0) hx hb dX1_isOther_40 (by decide) ?_
        exact hp_zret hx hb hr rfl hlocks hZ ⟨rfl, hP, ho_t, (Or.inl (by decide))⟩ dX1_isOther_41
      · have c43 : (z29).toInt = (k1).toInt := hq_eqi.mp c43
        refine lv_iload_n hx hb dX1_isOther_31 rfl (lv_at hl 1 rfl) ?_
        refine lv_iload_n hx hb dX1_isOther_32 rfl (lv_at hl 3 rfl) ?_
        refine lv_icmp_eq (tgt := 40) hx hb dX1_isOther_33 (by decide) (fun c44 => ?_) (fun c44 => ?_)
        · have c44 : (k).toInt = (k2).toInt := hq_eqi.mp c44
          refine lv_iconst (v := 0) hx hb dX1_isOther_40 (by decide) ?_
          exact hp_zret hx hb hr rfl hlocks hZ ⟨rfl, hP, ho_t, (Or.inl (by decide))⟩ dX1_isOther_41
        · have c44 : ¬ (k).toInt = (k2).toInt := fun h9 => c44 (hq_eqi.mpr h9)
          refine lv_iconst (v := 1) hx hb dX1_isOther_36 (by decide) ?_
          refine lv_goto (tgt := 41) hx hb dX1_isOther_37 (by decide) ?_
          exact hp_zret hx hb hr rfl hlocks hZ ⟨rfl, hP, ho_t, (Or.inr ⟨by decide, by omega, by omega⟩)⟩ dX1_isOther_41

set_option maxHeartbeats 4000000 in
set_option maxRecDepth 100000 in
theorem t_X1_isBetter (l : Launch) (D : va_G) (cs : Nat → ClassId) (B : Nat) (G : hq_G) (V : hp_V) (n : Nat) (hI : hq_I cs G V) (t : Nat) (h_t : G t = some (14, 0, 0, 0)) {e_be e_tr e_st e_en e_wo e_ki e_mi e_ta : Nat} {e_fd e_sz : Int32} {e_bk e_an e_mk : Value} (ho_t : V t = some (.inr (1, [.ref (e_be), .ref (e_tr), .int (e_fd), .ref (e_st), .ref (e_en), .ref (e_wo), e_bk, e_an, e_mk, .int (e_sz), .ref (e_ki), .ref (e_mi), .ref (e_ta)]))) (h_e_be : G e_be = some (13, 0, 0, 0)) (h_e_tr : G e_tr = some (13, 0, 0, 0)) (h_e_st : G e_st = some (0, 30, 0, 0)) (h_e_en : G e_en = some (0, 30, 0, 0)) (h_e_wo : G e_wo = some (0, 30, 0, 0)) (h_e_ki : G e_ki = some (2, 8, 2, 0)) (h_e_mi : G e_mi = some (2, 8, 2, 0)) (h_e_ta : G e_ta = some (2, 8, 2, 0)) (hi_t0 : 0 ≤ e_fd.toInt ∧ e_fd.toInt ≤ 1) (hi_t1 : 0 ≤ e_sz.toInt ∧ e_sz.toInt ≤ 2) : hp_M l yX1_isBetter cX1_isBetter 3 (some .boolean) ({ frames := 2, cells := 0, slots := 0, locals := 41 }) D cs B V n [.ref (t)] (hp_QI D cs B (fun r V' n' => n = n' ∧ hq_P cs G (fun _ => false) V V' ∧ (V' t = some (.inr (1, [.ref (e_be), .ref (e_tr), .int (e_fd), .ref (e_st), .ref (e_en), .ref (e_wo), e_bk, e_an, e_mk, .int (e_sz), .ref (e_ki), .ref (e_mi), .ref (e_ta)]))) ∧ (0 ≤ r.toInt ∧ r.toInt ≤ 1))) 0 0 := by
  refine hp_walk (R0 := RX1) (by decide) rfl ?_ (Nat.le_of_ble_eq_true rfl)
  intro p e s m below meth c ls hx hb hr hts hown hlocks hin hml hZ hl
  have hP : hq_P cs G (fun _ => false) V V := hq_P.rf hI
  have hl : lv_has ls 3 [(0, .ref (t))] := hl
  have hb_e_fd := hq_rng e_fd
  have hb_e_sz := hq_rng e_sz
  refine lv_aload_n hx hb dX1_isBetter_0 rfl (lv_at hl 0 rfl) ?_
  refine hp_get (v := .ref (e_tr)) hx hb hts hown hZ ho_t fl_X1_18 rfl dX1_isBetter_1 ?_
  obtain ⟨z8, z9, z10, z11, z12, z13, z14, eV7, h15, h16⟩ := hq_o13 hP.1 h_e_tr
  refine hp_calli (hp_runV (As := []) (rest := []) hx hb hml hown hts (t_X10_changes l D cs B G  V n hP.1  (e_tr) h_e_tr ) hZ eV7 cv_X1_140 rfl rfl ⟨Nat.le_of_ble_eq_true rfl, Nat.le_of_ble_eq_true rfl⟩ rfl hl.1 rfl (Nat.le_of_ble_eq_true rfl) dX1_isBetter_4 ⟨(Nat.le_of_ble_eq_true rfl), (Nat.le_of_ble_eq_true rfl)⟩) hZ (fun r4 V1 n2 _ _ hw3 hZ => ?_)
  obtain ⟨rfl, hq5, hr6⟩ := hw3
  have hP := hP.trans hq5 (fun _ _ => rfl)
  have b17 := hq_rng r4
  refine lv_istore_n (lv' := [(1, .int (r4)), (0, .ref (t))]) hx hb dX1_isBetter_7 rfl hl (by decide) rfl (fun ls hl => ?_)
  refine lv_iload_n hx hb dX1_isBetter_8 rfl (lv_at hl 0 rfl) ?_
  refine lv_iconst (v := 2) hx hb dX1_isBetter_9 (by decide) ?_
  refine lv_icmp_gt (tgt := 20) hx hb dX1_isBetter_10 (by decide) (fun c18 => ?_) (fun c18 => ?_)
  · have c18 : (2 : Int) < (r4).toInt := hq_lti.mp c18
    refine lv_iload_n hx hb dX1_isBetter_20 rfl (lv_at hl 0 rfl) ?_
    refine lv_iconst (v := 2) hx hb dX1_isBetter_21 (by decide) ?_
    refine lv_icmp_gt (tgt := 29) hx hb dX1_isBetter_22 (by decide) (fun c19 => ?_) (fun c19 => ?_)
    · have c19 : (2 : Int) < (r4).toInt := hq_lti.mp c19
      refine lv_iconst (v := 0) hx hb dX1_isBetter_29 (by decide) ?_
      have fx20 : V1 (t) = some (.inr (1, [.ref (e_be), .ref (e_tr), .int (e_fd), .ref (e_st), .ref (e_en), .ref (e_wo), e_bk, e_an, e_mk, .int (e_sz), .ref (e_ki), .ref (e_mi), .ref (e_ta)])) := (hq5.2 (t) _ h_t rfl).trans (ho_t)
      exact hp_zret hx hb hr rfl hlocks hZ ⟨rfl, hP, fx20, (by decide)⟩ dX1_isBetter_30
    · have c19 : ¬ (2 : Int) < (r4).toInt := fun h9 => c19 (hq_lti.mpr h9)
      refine lv_iconst (v := 1) hx hb dX1_isBetter_25 (by decide) ?_
      refine lv_goto (tgt := 30) hx hb dX1_isBetter_26 (by decide) ?_
      have fx21 : V1 (t) = some (.inr (1, [.ref (e_be), .ref (e_tr), .int (e_fd), .ref (e_st), .ref (e_en), .ref (e_wo), e_bk, e_an, e_mk, .int (e_sz), .ref (e_ki), .ref (e_mi), .ref (e_ta)])) := (hq5.2 (t) _ h_t rfl).trans (ho_t)
      exact hp_zret hx hb hr rfl hlocks hZ ⟨rfl, hP, fx21, (by decide)⟩ dX1_isBetter_30
  · have c18 : ¬ (2 : Int) < (r4).toInt := fun h9 => c18 (hq_lti.mpr h9)
    refine lv_aload_n hx hb dX1_isBetter_13 rfl (lv_at hl 1 rfl) ?_
    have fx22 : V1 (t) = some (.inr (1, [.ref (e_be), .ref (e_tr), .int (e_fd), .ref (e_st), .ref (e_en), .ref (e_wo), e_bk, e_an, e_mk, .int (e_sz), .ref (e_ki), .ref (e_mi), .ref (e_ta)])) := (hq5.2 (t) _ h_t rfl).trans (ho_t)
    refine hp_get (v := .int (e_fd)) hx hb hts hown hZ fx22 fl_X1_76 rfl dX1_isBetter_14 ?_
    refine lv_if_ne (tgt := 31) hx hb dX1_isBetter_17 (by decide) (fun c23 => ?_) (fun c23 => ?_)
    · have c23 : ¬ (e_fd).toInt = (0 : Int) := fun h9 => c23 (hq_eqi.mpr h9)
      refine lv_aload_n hx hb dX1_isBetter_31 rfl (lv_at hl 1 rfl) ?_
      refine hp_get (v := .ref (e_be)) hx hb hts hown hZ fx22 fl_X1_12 rfl dX1_isBetter_32 ?_
      obtain ⟨z31, z32, z33, z34, z35, z36, z37, eV30, h38, h39⟩ := hq_o13 hP.1 h_e_be
      refine hp_calli (hp_runV (As := []) (rest := []) hx hb hml hown hts (t_X10_cost l D cs B G  V1 n hP.1  (e_be) h_e_be ) hZ eV30 cv_X1_163 rfl rfl ⟨Nat.le_of_ble_eq_true rfl, Nat.le_of_ble_eq_true rfl⟩ rfl hl.1 rfl (Nat.le_of_ble_eq_true rfl) dX1_isBetter_35 ⟨(Nat.le_of_ble_eq_true rfl), (Nat.le_of_ble_eq_true rfl)⟩) hZ (fun r27 V24 n25 _ _ hw26 hZ => ?_)
      obtain ⟨rfl, hq28, hr29⟩ := hw26
      have hP := hP.trans hq28 (fun _ _ => rfl)
      have b40 := hq_rng r27
      refine lv_aload_n hx hb dX1_isBetter_38 rfl (lv_at hl 1 rfl) ?_
      have fx41 : V24 (t) = some (.inr (1, [.ref (e_be), .ref (e_tr), .int (e_fd), .ref (e_st), .ref (e_en), .ref (e_wo), e_bk, e_an, e_mk, .int (e_sz), .ref (e_ki), .ref (e_mi), .ref (e_ta)])) := (hq28.2 (t) _ h_t rfl).trans (fx22)
      refine hp_get (v := .ref (e_tr)) hx hb hts hown hZ fx41 fl_X1_18 rfl dX1_isBetter_39 ?_
      have fx48 : V24 (e_tr) = some (.inr (10, [.int (z8), .int (z9), .int (z10), .int (z11), .int (z12), .int (z13), .int (z14)])) := (hq28.2 (e_tr) _ h_e_tr rfl).trans ((hq5.2 (e_tr) _ h_e_tr rfl).trans (eV7))
      refine hp_calli (hp_runV (As := []) (rest := [.int (r27)]) hx hb hml hown hts (t_X10_cost l D cs B G  V24 n hP.1  (e_tr) h_e_tr ) hZ fx48 cv_X1_163 rfl rfl ⟨Nat.le_of_ble_eq_true rfl, Nat.le_of_ble_eq_true rfl⟩ rfl hl.1 rfl (Nat.le_of_ble_eq_true rfl) dX1_isBetter_42 ⟨(Nat.le_of_ble_eq_true rfl), (Nat.le_of_ble_eq_true rfl)⟩) hZ (fun r45 V42 n43 _ _ hw44 hZ => ?_)
      obtain ⟨rfl, hq46, hr47⟩ := hw44
      have hP := hP.trans hq46 (fun _ _ => rfl)
      have b49 := hq_rng r45
      refine lv_isub hx hb dX1_isBetter_45 ?_
      refine lv_topi (fun y50 ey51 => ?_)
      obtain ⟨k52, hk53, b54, b55⟩ := hq_sub (r27) (r45)
      rw [← ey51] at hk53 b54 b55
      have hk53 : (y50).toInt = (r27).toInt - (r45).toInt + k52 * 4294967296 := hk53
      refine lv_istore_n (lv' := [(2, .int (y50)), (1, .int (r4)), (0, .ref (t))]) hx hb dX1_isBetter_46 rfl hl (by decide) rfl (fun ls hl => ?_)
      refine lv_iload_n hx hb dX1_isBetter_47 rfl (lv_at hl 0 rfl) ?_
      refine lv_if_gt (tgt := 66) hx hb dX1_isBetter_48 (by decide) (fun c56 => ?_) (fun c56 => ?_)
      · have c56 : (0 : Int) < (y50).toInt := hq_lti.mp c56
        refine lv_iconst (v := 1) hx hb dX1_isBetter_66 (by decide) ?_
        refine lv_goto (tgt := 71) hx hb dX1_isBetter_67 (by decide) ?_
        have fx57 : V42 (t) = some (.inr (1, [.ref (e_be), .ref (e_tr), .int (e_fd), .ref (e_st), .ref (e_en), .ref (e_wo), e_bk, e_an, e_mk, .int (e_sz), .ref (e_ki), .ref (e_mi), .ref (e_ta)])) := (hq46.2 (t) _ h_t rfl).trans (fx41)
        exact hp_zret hx hb hr rfl hlocks hZ ⟨rfl, hP, fx57, (by decide)⟩ dX1_isBetter_71
      · have c56 : ¬ (0 : Int) < (y50).toInt := fun h9 => c56 (hq_lti.mpr h9)
        refine lv_iload_n hx hb dX1_isBetter_51 rfl (lv_at hl 0 rfl) ?_
        refine lv_if_ne (tgt := 70) hx hb dX1_isBetter_52 (by decide) (fun c58 => ?_) (fun c58 => ?_)
        · have c58 : ¬ (y50).toInt = (0 : Int) := fun h9 => c58 (hq_eqi.mpr h9)
          refine lv_iconst (v := 0) hx hb dX1_isBetter_70 (by decide) ?_
          have fx59 : V42 (t) = some (.inr (1, [.ref (e_be), .ref (e_tr), .int (e_fd), .ref (e_st), .ref (e_en), .ref (e_wo), e_bk, e_an, e_mk, .int (e_sz), .ref (e_ki), .ref (e_mi), .ref (e_ta)])) := (hq46.2 (t) _ h_t rfl).trans (fx41)
          exact hp_zret hx hb hr rfl hlocks hZ ⟨rfl, hP, fx59, (by decide)⟩ dX1_isBetter_71
        · have c58 : (y50).toInt = (0 : Int) := hq_eqi.mp c58
          refine lv_iload_n hx hb dX1_isBetter_55 rfl (lv_at hl 1 rfl) ?_
          refine lv_aload_n hx hb dX1_isBetter_56 rfl (lv_at hl 2 rfl) ?_
          have fx60 : V42 (t) = some (.inr (1, [.ref (e_be), .ref (e_tr), .int (e_fd), .ref (e_st), .ref (e_en), .ref (e_wo), e_bk, e_an, e_mk, .int (e_sz), .ref (e_ki), .ref (e_mi), .ref (e_ta)])) := (hq46.2 (t) _ h_t rfl).trans (fx41)
          refine hp_get (v := .ref (e_be)) hx hb hts hown hZ fx60 fl_X1_12 rfl dX1_isBetter_57 ?_
          have fx67 : V42 (e_be) = some (.inr (10, [.int (z31), .int (z32), .int (z33), .int (z34), .int (z35), .int (z36), .int (z37)])) := (hq46.2 (e_be) _ h_e_be rfl).trans ((hq28.2 (e_be) _ h_e_be rfl).trans (eV30))
          refine hp_calli (hp_runV (As := []) (rest := [.int (r4)]) hx hb hml hown hts (t_X10_changes l D cs B G  V42 n hP.1  (e_be) h_e_be ) hZ fx67 cv_X1_140 rfl rfl ⟨Nat.le_of_ble_eq_true rfl, Nat.le_of_ble_eq_true rfl⟩ rfl hl.1 rfl (Nat.le_of_ble_eq_true rfl) dX1_isBetter_60 ⟨(Nat.le_of_ble_eq_true rfl), (Nat.le_of_ble_eq_true rfl)⟩) hZ (fun r64 V61 n62 _ _ hw63 hZ => ?_)
          obtain ⟨rfl, hq65, hr66⟩ := hw63
          have hP := hP.trans hq65 (fun _ _ => rfl)
          have b68 := hq_rng r64
          refine lv_icmp_ge (tgt := 70) hx hb dX1_isBetter_63 (by decide) (fun c69 => ?_) (fun c69 => ?_)
          · have c69 : (r64).toInt ≤ (r4).toInt := hq_lei.mp c69
            refine lv_iconst (v := 0) hx hb dX1_isBetter_70 (by decide) ?_
            have fx70 : V61 (t) = some (.inr (1, [.ref (e_be), .ref (e_tr), .int (e_fd), .ref (e_st), .ref (e_en), .ref (e_wo), e_bk, e_an, e_mk, .int (e_sz), .ref (e_ki), .ref (e_mi), .ref (e_ta)])) := (hq65.2 (t) _ h_t rfl).trans (fx60)
            exact hp_zret hx hb hr rfl hlocks hZ ⟨rfl, hP, fx70, (by decide)⟩ dX1_isBetter_71
          · have c69 : ¬ (r64).toInt ≤ (r4).toInt := fun h9 => c69 (hq_lei.mpr h9)
            refine lv_iconst (v := 1) hx hb dX1_isBetter_66 (by decide) ?_
            refine lv_goto (tgt := 71) hx hb dX1_isBetter_67 (by decide) ?_
            have fx71 : V61 (t) = some (.inr (1, [.ref (e_be), .ref (e_tr), .int (e_fd), .ref (e_st), .ref (e_en), .ref (e_wo), e_bk, e_an, e_mk, .int (e_sz), .ref (e_ki), .ref (e_mi), .ref (e_ta)])) := (hq65.2 (t) _ h_t rfl).trans (fx60)
            exact hp_zret hx hb hr rfl hlocks hZ ⟨rfl, hP, fx71, (by decide)⟩ dX1_isBetter_71
    · have c23 : (e_fd).toInt = (0 : Int) := hq_eqi.mp c23
      refine lv_iload_n hx hb dX1_isBetter_20 rfl (lv_at hl 0 rfl) ?_
      refine lv_iconst (v := 2) hx hb dX1_isBetter_21 (by decide) ?_
      refine lv_icmp_gt (tgt := 29) hx hb dX1_isBetter_22 (by decide) (fun c72 => ?_) (fun c72 => ?_)
      · have c72 : (2 : Int) < (r4).toInt := hq_lti.mp c72
        refine lv_iconst (v := 0) hx hb dX1_isBetter_29 (by decide) ?_
        exact hp_zret hx hb hr rfl hlocks hZ ⟨rfl, hP, fx22, (by decide)⟩ dX1_isBetter_30
      · have c72 : ¬ (2 : Int) < (r4).toInt := fun h9 => c72 (hq_lti.mpr h9)
        refine lv_iconst (v := 1) hx hb dX1_isBetter_25 (by decide) ?_
        refine lv_goto (tgt := 30) hx hb dX1_isBetter_26 (by decide) ?_
        exact hp_zret hx hb hr rfl hlocks hZ ⟨rfl, hP, fx22, (by decide)⟩ dX1_isBetter_30

set_option maxHeartbeats 4000000 in
set_option maxRecDepth 100000 in
theorem t_X1_tryWord (l : Launch) (D : va_G) (cs : Nat → ClassId) (B : Nat) (G : hq_G) (V : hp_V) (n : Nat) (hI : hq_I cs G V) (b : Nat) (t : Nat) (h_t : G t = some (14, 0, 0, 0)) {e_be e_tr e_st e_en e_wo e_bk e_an e_mk e_ki e_mi e_ta : Nat} {e_fd e_sz : Int32} (ho_t : V t = some (.inr (1, [.ref (e_be), .ref (e_tr), .int (e_fd), .ref (e_st), .ref (e_en), .ref (e_wo), .ref (e_bk), .ref (e_an), .ref (e_mk), .int (e_sz), .ref (e_ki), .ref (e_mi), .ref (e_ta)]))) (h_e_be : G e_be = some (13, 0, 0, 0)) (h_e_tr : G e_tr = some (13, 0, 0, 0)) (h_e_st : G e_st = some (0, 30, 0, 0)) (h_e_en : G e_en = some (0, 30, 0, 0)) (h_e_wo : G e_wo = some (0, 30, 0, 0)) (h_e_bk : G e_bk = some (6, b, 0, 0)) (h_e_an : G e_an = some (0, 4000, 0, 0)) (h_e_mk : G e_mk = some (11, 0, 0, 0)) (h_e_ki : G e_ki = some (2, 8, 2, 0)) (h_e_mi : G e_mi = some (2, 8, 2, 0)) (h_e_ta : G e_ta = some (2, 8, 2, 0)) (hi_t0 : 0 ≤ e_fd.toInt ∧ e_fd.toInt ≤ 1) (hi_t1 : 0 ≤ e_sz.toInt ∧ e_sz.toInt ≤ 2) : hp_M l yX1_tryWord cX1_tryWord 3 (some .long) ({ frames := 5, cells := 0, slots := 0, locals := 121 }) D cs B V n [.ref (t)] (hp_QL D cs B (fun r V' n' => n = n' ∧ hq_P cs G (fun g => g.1 == 5 || g.1 == 7 || g.1 == 8 || g.1 == 13) V V' ∧ (∃ (e_fd1 : Int32), V' t = some (.inr (1, [.ref (e_be), .ref (e_tr), .int (e_fd1), .ref (e_st), .ref (e_en), .ref (e_wo), .ref (e_bk), .ref (e_an), .ref (e_mk), .int (e_sz), .ref (e_ki), .ref (e_mi), .ref (e_ta)])) ∧ (0 ≤ e_fd1.toInt ∧ e_fd1.toInt ≤ 1)) ∧ True)) 0 0 := by
  refine hp_walk (R0 := RX1) (by decide) rfl ?_ (Nat.le_of_ble_eq_true rfl)
  intro p e s m below meth c ls hx hb hr hts hown hlocks hin hml hZ hl
  have hP : hq_P cs G (fun g => g.1 == 5 || g.1 == 7 || g.1 == 8 || g.1 == 13) V V := hq_P.rf hI
  have hl : lv_has ls 3 [(0, .ref (t))] := hl
  have hb_e_fd := hq_rng e_fd
  have hb_e_sz := hq_rng e_sz
  refine lv_aload_n hx hb dX1_tryWord_0 rfl (lv_at hl 0 rfl) ?_
  refine hp_get (v := .ref (e_wo)) hx hb hts hown hZ ho_t fl_X1_33 rfl dX1_tryWord_1 ?_
  refine lv_aload_n hx hb dX1_tryWord_4 rfl (lv_at hl 0 rfl) ?_
  refine hp_get (v := .ref (e_en)) hx hb hts hown hZ ho_t fl_X1_30 rfl dX1_tryWord_5 ?_
  obtain ⟨u8, z9, eV7, hu10, h11, h12, h13⟩ := hq_o0 hP.1 h_e_wo
  refine hp_callv (hp_runV (As := [.ref (e_en)]) (rest := []) hx hb hml hown hts (t_X9_set l D cs B G (fun g => g.1 == 5) V n hP.1 _ _ (e_wo) h_e_wo (e_en) h_e_en rfl rfl) hZ eV7 cv_X1_120 rfl rfl ⟨Nat.le_of_ble_eq_true rfl, Nat.le_of_ble_eq_true rfl⟩ rfl hl.1 rfl (Nat.le_of_ble_eq_true rfl) dX1_tryWord_8 ⟨(Nat.le_of_ble_eq_true rfl), (Nat.le_of_ble_eq_true rfl)⟩) hZ (fun V1 n2 _ _ hw3 hZ => ?_)
  obtain ⟨rfl, hq5⟩ := hw3
  have hP := hP.trans hq5 (by intro g h; simp_all)
  refine lv_aload_n hx hb dX1_tryWord_11 rfl (lv_at hl 0 rfl) ?_
  have fx14 : V1 (t) = some (.inr (1, [.ref (e_be), .ref (e_tr), .int (e_fd), .ref (e_st), .ref (e_en), .ref (e_wo), .ref (e_bk), .ref (e_an), .ref (e_mk), .int (e_sz), .ref (e_ki), .ref (e_mi), .ref (e_ta)])) := (hq5.2 (t) _ h_t rfl).trans (ho_t)
  refine hp_get (v := .ref (e_mk)) hx hb hts hown hZ fx14 fl_X1_57 rfl dX1_tryWord_12 ?_
  refine lv_aload_n hx hb dX1_tryWord_15 rfl (lv_at hl 0 rfl) ?_
  refine hp_get (v := .ref (e_bk)) hx hb hts hown hZ fx14 fl_X1_50 rfl dX1_tryWord_16 ?_
  refine lv_aload_n hx hb dX1_tryWord_19 rfl (lv_at hl 0 rfl) ?_
  refine hp_get (v := .ref (e_wo)) hx hb hts hown hZ fx14 fl_X1_33 rfl dX1_tryWord_20 ?_
  refine lv_aload_n hx hb dX1_tryWord_23 rfl (lv_at hl 0 rfl) ?_
  refine hp_get (v := .ref (e_tr)) hx hb hts hown hZ fx14 fl_X1_18 rfl dX1_tryWord_24 ?_
  obtain ⟨z16, z17, z18, z19, z20, z21, z22, eV15, h23, h24⟩ := hq_o13 hP.1 h_e_tr
  refine hp_get (v := .int (z21)) hx hb hts hown hZ eV15 fl_X1_114 rfl dX1_tryWord_27 ?_
  refine lv_aload_n hx hb dX1_tryWord_30 rfl (lv_at hl 0 rfl) ?_
  refine hp_get (v := .ref (e_tr)) hx hb hts hown hZ fx14 fl_X1_18 rfl dX1_tryWord_31 ?_
  refine hp_get (v := .int (z22)) hx hb hts hown hZ eV15 fl_X1_117 rfl dX1_tryWord_34 ?_
  obtain ⟨u32, u33, u34, u35, z36, eV31, hu37, hu38, hu39, hu40, h41, h42⟩ := hq_o11 hP.1 h_e_mk
  refine hp_calll (hp_runV (As := [.ref (e_bk), .ref (e_wo), .int (z21), .int (z22)]) (rest := []) hx hb hml hown hts (t_X6_soundAll l D cs B G  V1 n hP.1 _ (e_mk) h_e_mk (e_bk) h_e_bk (e_wo) h_e_wo (z21) (z22) ) hZ eV31 cv_X1_148 rfl rfl ⟨Nat.le_of_ble_eq_true rfl, Nat.le_of_ble_eq_true rfl⟩ rfl hl.1 rfl (Nat.le_of_ble_eq_true rfl) dX1_tryWord_37 ⟨(Nat.le_of_ble_eq_true rfl), (Nat.le_of_ble_eq_true rfl)⟩) hZ (fun r28 V25 n26 _ _ hw27 hZ => ?_)
  obtain ⟨rfl, hq29, hr30⟩ := hw27
  have hP := hP.trans hq29 (by intro g h; simp_all)
  refine lv_lstore_n (lv' := [(1, .long (r28)), (0, .ref (t))]) hx hb dX1_tryWord_40 rfl hl (by decide) rfl (fun ls hl => ?_)
  refine lv_aload_n hx hb dX1_tryWord_41 rfl (lv_at hl 1 rfl) ?_
  have fx43 : V25 (t) = some (.inr (1, [.ref (e_be), .ref (e_tr), .int (e_fd), .ref (e_st), .ref (e_en), .ref (e_wo), .ref (e_bk), .ref (e_an), .ref (e_mk), .int (e_sz), .ref (e_ki), .ref (e_mi), .ref (e_ta)])) := (hq29.2 (t) _ h_t rfl).trans (fx14)
  refine hp_get (v := .ref (e_mk)) hx hb hts hown hZ fx43 fl_X1_57 rfl dX1_tryWord_42 ?_
  obtain ⟨u45, u46, u47, u48, z49, eV44, hu50, hu51, hu52, hu53, h54, h55⟩ := hq_o11 hP.1 h_e_mk
  refine hp_get (v := .int (z49)) hx hb hts hown hZ eV44 fl_X1_154 rfl dX1_tryWord_45 ?_
  refine lv_if_eq (tgt := 88) hx hb dX1_tryWord_48 (by decide) (fun c56 => ?_) (fun c56 => ?_)
  · have c56 : (z49).toInt = (0 : Int) := hq_eqi.mp c56
    refine lv_lload_n hx hb dX1_tryWord_88 rfl (lv_at hl 0 rfl) ?_
    exact hp_lret hx hb hr hlocks hZ ⟨rfl, hP, ⟨e_fd, fx43, by omega⟩, trivial⟩ dX1_tryWord_89
  · have c56 : ¬ (z49).toInt = (0 : Int) := fun h9 => c56 (hq_eqi.mpr h9)
    refine lv_aload_n hx hb dX1_tryWord_51 rfl (lv_at hl 1 rfl) ?_
    refine hp_get (v := .ref (e_wo)) hx hb hts hown hZ fx43 fl_X1_33 rfl dX1_tryWord_52 ?_
    refine lv_aload_n hx hb dX1_tryWord_55 rfl (lv_at hl 1 rfl) ?_
    refine hp_get (v := .ref (e_an)) hx hb hts hown hZ fx43 fl_X1_54 rfl dX1_tryWord_56 ?_
    obtain ⟨u64, z65, eV63, hu66, h67, h68, h69⟩ := hq_o0 hP.1 h_e_wo
    refine hp_calli (hp_runV (As := [.ref (e_an)]) (rest := []) hx hb hml hown hts (t_X9_same l D cs B G  V25 n hP.1 _ _ (e_wo) h_e_wo (e_an) h_e_an ) hZ eV63 cv_X1_157 rfl rfl ⟨Nat.le_of_ble_eq_true rfl, Nat.le_of_ble_eq_true rfl⟩ rfl hl.1 rfl (Nat.le_of_ble_eq_true rfl) dX1_tryWord_59 ⟨(Nat.le_of_ble_eq_true rfl), (Nat.le_of_ble_eq_true rfl)⟩) hZ (fun r60 V57 n58 _ _ hw59 hZ => ?_)
    obtain ⟨rfl, hq61, hr62⟩ := hw59
    have hP := hP.trans hq61 (fun _ _ => rfl)
    have b70 := hq_rng r60
    refine lv_if_eq (tgt := 88) hx hb dX1_tryWord_62 (by decide) (fun c71 => ?_) (fun c71 => ?_)
    · have c71 : (r60).toInt = (0 : Int) := hq_eqi.mp c71
      refine lv_lload_n hx hb dX1_tryWord_88 rfl (lv_at hl 0 rfl) ?_
      have fx72 : V57 (t) = some (.inr (1, [.ref (e_be), .ref (e_tr), .int (e_fd), .ref (e_st), .ref (e_en), .ref (e_wo), .ref (e_bk), .ref (e_an), .ref (e_mk), .int (e_sz), .ref (e_ki), .ref (e_mi), .ref (e_ta)])) := (hq61.2 (t) _ h_t rfl).trans (fx43)
      exact hp_lret hx hb hr hlocks hZ ⟨rfl, hP, ⟨e_fd, fx72, by omega⟩, trivial⟩ dX1_tryWord_89
    · have c71 : ¬ (r60).toInt = (0 : Int) := fun h9 => c71 (hq_eqi.mpr h9)
      refine lv_aload_n hx hb dX1_tryWord_65 rfl (lv_at hl 1 rfl) ?_
      have fx79 : V57 (t) = some (.inr (1, [.ref (e_be), .ref (e_tr), .int (e_fd), .ref (e_st), .ref (e_en), .ref (e_wo), .ref (e_bk), .ref (e_an), .ref (e_mk), .int (e_sz), .ref (e_ki), .ref (e_mi), .ref (e_ta)])) := (hq61.2 (t) _ h_t rfl).trans (fx43)
      refine hp_calli (hp_runV (As := []) (rest := []) hx hb hml hown hts (t_X1_isBetter l D cs B G  V57 n hP.1  (t) h_t fx79 h_e_be h_e_tr h_e_st h_e_en h_e_wo h_e_ki h_e_mi h_e_ta (by omega) (by omega) ) hZ fx79 cv_X1_91 rfl rfl ⟨Nat.le_of_ble_eq_true rfl, Nat.le_of_ble_eq_true rfl⟩ rfl hl.1 rfl (Nat.le_of_ble_eq_true rfl) dX1_tryWord_66 ⟨(Nat.le_of_ble_eq_true rfl), (Nat.le_of_ble_eq_true rfl)⟩) hZ (fun r76 V73 n74 _ _ hw75 hZ => ?_)
      obtain ⟨rfl, hq77, ho80, hr78⟩ := hw75
      have hP := hP.trans hq77 (fun _ _ => rfl)
      have b81 := hq_rng r76
      refine lv_if_eq (tgt := 88) hx hb dX1_tryWord_69 (by decide) (fun c82 => ?_) (fun c82 => ?_)
      · have c82 : (r76).toInt = (0 : Int) := hq_eqi.mp c82
        refine lv_lload_n hx hb dX1_tryWord_88 rfl (lv_at hl 0 rfl) ?_
        exact hp_lret hx hb hr hlocks hZ ⟨rfl, hP, ⟨e_fd, ho80, by omega⟩, trivial⟩ dX1_tryWord_89
      · have c82 : ¬ (r76).toInt = (0 : Int) := fun h9 => c82 (hq_eqi.mpr h9)
        refine lv_aload_n hx hb dX1_tryWord_72 rfl (lv_at hl 1 rfl) ?_
        refine hp_get (v := .ref (e_be)) hx hb hts hown hZ ho80 fl_X1_12 rfl dX1_tryWord_73 ?_
        refine lv_aload_n hx hb dX1_tryWord_76 rfl (lv_at hl 1 rfl) ?_
        refine hp_get (v := .ref (e_tr)) hx hb hts hown hZ ho80 fl_X1_18 rfl dX1_tryWord_77 ?_
        obtain ⟨z90, z91, z92, z93, z94, z95, z96, eV89, h97, h98⟩ := hq_o13 hP.1 h_e_be
        refine hp_callv (hp_runV (As := [.ref (e_tr)]) (rest := []) hx hb hml hown hts (t_X10_set l D cs B G  V73 n hP.1  (e_be) h_e_be (e_tr) h_e_tr ) hZ eV89 cv_X1_160 rfl rfl ⟨Nat.le_of_ble_eq_true rfl, Nat.le_of_ble_eq_true rfl⟩ rfl hl.1 rfl (Nat.le_of_ble_eq_true rfl) dX1_tryWord_80 ⟨(Nat.le_of_ble_eq_true rfl), (Nat.le_of_ble_eq_true rfl)⟩) hZ (fun V83 n84 _ _ hw85 hZ => ?_)
        obtain ⟨rfl, hq87⟩ := hw85
        have hP := hP.trans hq87 (by intro g h; simp_all)
        refine lv_aload_n hx hb dX1_tryWord_83 rfl (lv_at hl 1 rfl) ?_
        refine lv_iconst (v := 1) hx hb dX1_tryWord_84 (by decide) ?_
        have fx99 : V83 (t) = some (.inr (1, [.ref (e_be), .ref (e_tr), .int (e_fd), .ref (e_st), .ref (e_en), .ref (e_wo), .ref (e_bk), .ref (e_an), .ref (e_mk), .int (e_sz), .ref (e_ki), .ref (e_mi), .ref (e_ta)])) := (hq87.2 (t) _ h_t rfl).trans (ho80)
        refine hp_put hx hb hts hown hZ fx99 fp_X1_76 rfl rfl (Nat.le_of_ble_eq_true rfl) dX1_tryWord_85 (fun V100 _ _ e101 o102 hZ => ?_)
        have e101 : V100 (t) = some (.inr (1, [.ref (e_be), .ref (e_tr), .int (1), .ref (e_st), .ref (e_en), .ref (e_wo), .ref (e_bk), .ref (e_an), .ref (e_mk), .int (e_sz), .ref (e_ki), .ref (e_mi), .ref (e_ta)])) := e101
        have hP := hP.put h_t e101 o102 (trivial) rfl
        refine lv_lload_n hx hb dX1_tryWord_88 rfl (lv_at hl 0 rfl) ?_
        have hl103 : (1 : Int32).toInt = 1 := by decide
        exact hp_lret hx hb hr hlocks hZ ⟨rfl, hP, ⟨1, e101, by omega⟩, trivial⟩ dX1_tryWord_89

set_option maxHeartbeats 4000000 in
set_option maxRecDepth 100000 in
theorem t_X1_trySounds (l : Launch) (D : va_G) (cs : Nat → ClassId) (B : Nat) (G : hq_G) (V : hp_V) (n : Nat) (hI : hq_I cs G V) (b : Nat) (t : Nat) (h_t : G t = some (14, 0, 0, 0)) {e_be e_tr e_st e_en e_wo e_bk e_an e_mk e_ki e_mi e_ta : Nat} {e_fd e_sz : Int32} (ho_t : V t = some (.inr (1, [.ref (e_be), .ref (e_tr), .int (e_fd), .ref (e_st), .ref (e_en), .ref (e_wo), .ref (e_bk), .ref (e_an), .ref (e_mk), .int (e_sz), .ref (e_ki), .ref (e_mi), .ref (e_ta)]))) (h_e_be : G e_be = some (13, 0, 0, 0)) (h_e_tr : G e_tr = some (13, 0, 0, 0)) (h_e_st : G e_st = some (0, 30, 0, 0)) (h_e_en : G e_en = some (0, 30, 0, 0)) (h_e_wo : G e_wo = some (0, 30, 0, 0)) (h_e_bk : G e_bk = some (6, b, 0, 0)) (h_e_an : G e_an = some (0, 4000, 0, 0)) (h_e_mk : G e_mk = some (11, 0, 0, 0)) (h_e_ki : G e_ki = some (2, 8, 2, 0)) (h_e_mi : G e_mi = some (2, 8, 2, 0)) (h_e_ta : G e_ta = some (2, 8, 2, 0)) (hi_t0 : 0 ≤ e_fd.toInt ∧ e_fd.toInt ≤ 1) (hi_t1 : 0 ≤ e_sz.toInt ∧ e_sz.toInt ≤ 2) : hp_M l yX1_trySounds cX1_trySounds 8 none ({ frames := 6, cells := 0, slots := 0, locals := 143 }) D cs B V n [.ref (t)] (hp_QV D cs B (fun V' n' => n = n' ∧ hq_P cs G (fun g => g.1 == 5 || g.1 == 7 || g.1 == 8 || g.1 == 13) V V' ∧ (∃ (e_fd1 : Int32), V' t = some (.inr (1, [.ref (e_be), .ref (e_tr), .int (e_fd1), .ref (e_st), .ref (e_en), .ref (e_wo), .ref (e_bk), .ref (e_an), .ref (e_mk), .int (e_sz), .ref (e_ki), .ref (e_mi), .ref (e_ta)])) ∧ (0 ≤ e_fd1.toInt ∧ e_fd1.toInt ≤ 1)))) 0 0 := by
  refine hp_walk (R0 := RX1) (by decide) rfl ?_ (Nat.le_of_ble_eq_true rfl)
  intro p e s m below meth c ls hx hb hr hts hown hlocks hin hml hZ hl
  have hP : hq_P cs G (fun g => g.1 == 5 || g.1 == 7 || g.1 == 8 || g.1 == 13) V V := hq_P.rf hI
  have hl : lv_has ls 8 [(0, .ref (t))] := hl
  have hb_e_fd := hq_rng e_fd
  have hb_e_sz := hq_rng e_sz
  refine lv_iconst (v := 2) hx hb dX1_trySounds_0 (by decide) ?_
  refine lv_aload_n hx hb dX1_trySounds_1 rfl (lv_at hl 0 rfl) ?_
  refine hp_get (v := .ref (e_tr)) hx hb hts hown hZ ho_t fl_X1_18 rfl dX1_trySounds_2 ?_
  obtain ⟨z8, z9, z10, z11, z12, z13, z14, eV7, h15, h16⟩ := hq_o13 hP.1 h_e_tr
  refine hp_calli (hp_runV (As := []) (rest := [.int (2)]) hx hb hml hown hts (t_X10_changes l D cs B G  V n hP.1  (e_tr) h_e_tr ) hZ eV7 cv_X1_140 rfl rfl ⟨Nat.le_of_ble_eq_true rfl, Nat.le_of_ble_eq_true rfl⟩ rfl hl.1 rfl (Nat.le_of_ble_eq_true rfl) dX1_trySounds_5 ⟨(Nat.le_of_ble_eq_true rfl), (Nat.le_of_ble_eq_true rfl)⟩) hZ (fun r4 V1 n2 _ _ hw3 hZ => ?_)
  obtain ⟨rfl, hq5, hr6⟩ := hw3
  have hP := hP.trans hq5 (fun _ _ => rfl)
  have b17 := hq_rng r4
  refine lv_isub hx hb dX1_trySounds_8 ?_
  refine lv_topi (fun y18 ey19 => ?_)
  obtain ⟨k20, hk21, b22, b23⟩ := hq_sub (2) (r4)
  rw [← ey19] at hk21 b22 b23
  have hk21 : (y18).toInt = (2 : Int) - (r4).toInt + k20 * 4294967296 := hk21
  refine lv_istore_n (lv' := [(1, .int (y18)), (0, .ref (t))]) hx hb dX1_trySounds_9 rfl hl (by decide) rfl (fun ls hl => ?_)
  refine lv_aload_n hx hb dX1_trySounds_10 rfl (lv_at hl 1 rfl) ?_
  have fx30 : V1 (t) = some (.inr (1, [.ref (e_be), .ref (e_tr), .int (e_fd), .ref (e_st), .ref (e_en), .ref (e_wo), .ref (e_bk), .ref (e_an), .ref (e_mk), .int (e_sz), .ref (e_ki), .ref (e_mi), .ref (e_ta)])) := (hq5.2 (t) _ h_t rfl).trans (ho_t)
  refine hp_calll (hp_runV (As := []) (rest := []) hx hb hml hown hts (t_X1_tryWord l D cs B G  V1 n hP.1 _ (t) h_t fx30 h_e_be h_e_tr h_e_st h_e_en h_e_wo h_e_bk h_e_an h_e_mk h_e_ki h_e_mi h_e_ta (by omega) (by omega) ) hZ fx30 cv_X1_144 rfl rfl ⟨Nat.le_of_ble_eq_true rfl, Nat.le_of_ble_eq_true rfl⟩ rfl hl.1 rfl (Nat.le_of_ble_eq_true rfl) dX1_trySounds_11 ⟨(Nat.le_of_ble_eq_true rfl), (Nat.le_of_ble_eq_true rfl)⟩) hZ (fun r27 V24 n25 _ _ hw26 hZ => ?_)
  obtain ⟨rfl, hq28, ⟨z31, ho32, hi33⟩, hr29⟩ := hw26
  have hP := hP.trans hq28 (by intro g h; simp_all)
  have b34 := hq_rng z31
  refine lv_lstore_n (lv' := [(2, .long (r27)), (1, .int (y18)), (0, .ref (t))]) hx hb dX1_trySounds_14 rfl hl (by decide) rfl (fun ls hl => ?_)
  refine lv_iconst (v := 0) hx hb dX1_trySounds_15 (by decide) ?_
  refine lv_istore (lv' := [(4, .int (0)), (2, .long (r27)), (1, .int (y18)), (0, .ref (t))]) hx hb dX1_trySounds_16 hl (by decide) rfl (fun ls hl => ?_)
  have hl35 : (0 : Int32).toInt = 0 := by decide
  suffices lp18 : ∀ (k9 : Nat) (V9 : hp_V) (H9 : Heap) (locs9 : List Loc) (ls : Array Slot) (i : Int32) (f9 : Int32), (100 - i.toInt).toNat = k9 → hp_Z D cs B s V9 H9 n locs9 → hq_P cs G (fun g => g.1 == 5 || g.1 == 7 || g.1 == 8 || g.1 == 13) V V9 → V9 (t) = some (.inr (1, [.ref (e_be), .ref (e_tr), .int (f9), .ref (e_st), .ref (e_en), .ref (e_wo), .ref (e_bk), .ref (e_an), .ref (e_mk), .int (e_sz), .ref (e_ki), .ref (e_mi), .ref (e_ta)])) → 0 ≤ i.toInt → i.toInt ≤ 60 → 0 ≤ f9.toInt ∧ f9.toInt ≤ 1 → lv_has ls 8 [(4, .int (i)), (2, .long (r27)), (1, .int (y18)), (0, .ref (t))] → W p l e ({ frames := 6, cells := 0, slots := 0, locals := 143 }) s m ([.ref (t)] : List Value).toArray below meth c H9 locs9 0 0 (MQ below (hp_QV D cs B (fun V' n' => n = n' ∧ hq_P cs G (fun g => g.1 == 5 || g.1 == 7 || g.1 == 8 || g.1 == 13) V V' ∧ (∃ (e_fd1 : Int32), V' t = some (.inr (1, [.ref (e_be), .ref (e_tr), .int (e_fd1), .ref (e_st), .ref (e_en), .ref (e_wo), .ref (e_bk), .ref (e_an), .ref (e_mk), .int (e_sz), .ref (e_ki), .ref (e_mi), .ref (e_ta)])) ∧ (0 ≤ e_fd1.toInt ∧ e_fd1.toInt ≤ 1)))) ([.ref (t)] : List Value).toArray s 0 0 (hp_F B)) (F0 m 18 ls []) from lp18 _ _ _ _ ls (0) (z31) rfl hZ hP ho32 (by omega) (by omega) (by omega) (lv_sub hl [0, 1, 2, 3] rfl)
  intro k9
  induction k9 using Nat.strongRecOn with
  | _ k9 ih18 =>
    intro V9 H9 locs9 ls i f9 hk18 hZ hP ho36 hv37 hv38 hv39 hl
    have hb_i := hq_rng i
    have hb_f9 := hq_rng f9
    have hP_18 := hP
    refine lv_iload hx hb dX1_trySounds_18 (lv_at hl 0 rfl) ?_
    refine lv_aload_n hx hb dX1_trySounds_20 rfl (lv_at hl 3 rfl) ?_
    refine hp_get (v := .ref (e_bk)) hx hb hts hown hZ ho36 fl_X1_50 rfl dX1_trySounds_21 ?_
    obtain ⟨u41, u42, u43, u44, z45, z46, z47, eV40, hu48, hu49, hu50, hu51, ⟨h52, h53⟩, ⟨h54, h55⟩, h56, h57⟩ := hq_o6 hP.1 h_e_bk
    refine hp_get (v := .int (z47)) hx hb hts hown hZ eV40 fl_X1_80 rfl dX1_trySounds_24 ?_
    refine lv_icmp_ge (tgt := 129) hx hb dX1_trySounds_27 (by decide) (fun c58 => ?_) (fun c58 => ?_)
    · have c58 : (z47).toInt ≤ (i).toInt := hq_lei.mp c58
      exact hp_vret hx hb hr hlocks hZ ⟨rfl, hP, ⟨f9, ho36, by omega⟩⟩ dX1_trySounds_129
    · have c58 : ¬ (z47).toInt ≤ (i).toInt := fun h9 => c58 (hq_lei.mpr h9)
      refine lv_iload_n hx hb dX1_trySounds_30 rfl (lv_at hl 2 rfl) ?_
      refine lv_if_le (tgt := 129) hx hb dX1_trySounds_31 (by decide) (fun c59 => ?_) (fun c59 => ?_)
      · have c59 : (y18).toInt ≤ (0 : Int) := hq_lei.mp c59
        exact hp_vret hx hb hr hlocks hZ ⟨rfl, hP, ⟨f9, ho36, by omega⟩⟩ dX1_trySounds_129
      · have c59 : ¬ (y18).toInt ≤ (0 : Int) := fun h9 => c59 (hq_lei.mpr h9)
        refine lv_lload_n hx hb dX1_trySounds_34 rfl (lv_at hl 1 rfl) ?_
        refine lv_iload hx hb dX1_trySounds_35 (lv_at hl 0 rfl) ?_
        refine lv_lushr (v := ((r27 : Int64).toUInt64 >>> ((i : Int32).toInt64.toUInt64 &&& Int64.toUInt64 63)).toInt64) hx hb dX1_trySounds_37 rfl ?_
        refine lv_topl (fun y60 ey61 => ?_)
        refine lv_lconst (v := 1) hx hb dX1_trySounds_38 (by decide) ?_
        refine lv_land hx hb dX1_trySounds_39 ?_
        refine lv_topl (fun y62 ey63 => ?_)
        refine lv_lconst (v := 0) hx hb dX1_trySounds_40 (by decide) ?_
        refine W.lcmp hx hb dX1_trySounds_41 ?_
        refine lv_topi (fun y64 ey65 => ?_)
        have b66 := hq_rng y64
        refine lv_if_eq (tgt := 123) hx hb dX1_trySounds_42 (by decide) (fun c67 => ?_) (fun c67 => ?_)
        · have c67 : (y64).toInt = (0 : Int) := hq_eqi.mp c67
          obtain ⟨y68, ey69⟩ : ∃ y : Int32, y = i + (1) := ⟨_, rfl⟩
          obtain ⟨k70, hk71, b72, b73⟩ := hq_add (i) (1)
          rw [← ey69] at hk71 b72 b73
          have hk71 : (y68).toInt = (i).toInt + (1) + k70 * 4294967296 := hk71
          refine lv_iinc (v := y68) (lv' := [(4, .int (y68)), (2, .long (r27)), (1, .int (y18)), (0, .ref (t))]) hx hb dX1_trySounds_123 hl (k := 0) rfl (by rw [ey69]; rfl) (by decide) rfl (fun ls hl => ?_)
          refine lv_goto (tgt := 18) hx hb dX1_trySounds_126 (by decide) ?_
          exact ih18 _ (by omega) _ _ _ ls (y68) (f9) rfl hZ hP ho36 (by omega) (by omega) (by omega) (lv_sub hl [0, 1, 2, 3] rfl)
        · have c67 : ¬ (y64).toInt = (0 : Int) := fun h9 => c67 (hq_eqi.mpr h9)
          refine lv_aload_n hx hb dX1_trySounds_45 rfl (lv_at hl 3 rfl) ?_
          refine hp_get (v := .ref (e_tr)) hx hb hts hown hZ ho36 fl_X1_18 rfl dX1_trySounds_46 ?_
          refine lv_iload hx hb dX1_trySounds_49 (lv_at hl 0 rfl) ?_
          obtain ⟨z75, z76, z77, z78, z79, z80, z81, eV74, h82, h83⟩ := hq_o13 hP.1 h_e_tr
          refine hp_put hx hb hts hown hZ eV74 fp_X1_114 rfl rfl (Nat.le_of_ble_eq_true rfl) dX1_trySounds_51 (fun V84 _ _ e85 o86 hZ => ?_)
          have e85 : V84 (e_tr) = some (.inr (10, [.int (z75), .int (z76), .int (z77), .int (z78), .int (z79), .int (i), .int (z81)])) := e85
          have hP := hP.put h_e_tr e85 o86 (hq_c13 (show -1 ≤ (z76).toInt ∧ (z76).toInt ≤ 59 by omega) (show -1 ≤ (z77).toInt ∧ (z77).toInt ≤ 59 by omega)) rfl
          refine lv_aload_n hx hb dX1_trySounds_54 rfl (lv_at hl 3 rfl) ?_
          have fx93 : V84 (t) = some (.inr (1, [.ref (e_be), .ref (e_tr), .int (f9), .ref (e_st), .ref (e_en), .ref (e_wo), .ref (e_bk), .ref (e_an), .ref (e_mk), .int (e_sz), .ref (e_ki), .ref (e_mi), .ref (e_ta)])) := (o86 (t) (hq_tne h_t h_e_tr (by simp))).trans (ho36)
          refine hp_calll (hp_runV (As := []) (rest := []) hx hb hml hown hts (t_X1_tryWord l D cs B G  V84 n hP.1 _ (t) h_t fx93 h_e_be h_e_tr h_e_st h_e_en h_e_wo h_e_bk h_e_an h_e_mk h_e_ki h_e_mi h_e_ta (by omega) (by omega) ) hZ fx93 cv_X1_144 rfl rfl ⟨Nat.le_of_ble_eq_true rfl, Nat.le_of_ble_eq_true rfl⟩ rfl hl.1 rfl (Nat.le_of_ble_eq_true rfl) dX1_trySounds_55 ⟨(Nat.le_of_ble_eq_true rfl), (Nat.le_of_ble_eq_true rfl)⟩) hZ (fun r90 V87 n88 _ _ hw89 hZ => ?_)
          obtain ⟨rfl, hq91, ⟨z94, ho95, hi96⟩, hr92⟩ := hw89
          have hP := hP.trans hq91 (by intro g h; simp_all)
          have b97 := hq_rng z94
          refine lv_lstore (lv' := [(5, .long (r90)), (4, .int (i)), (2, .long (r27)), (1, .int (y18)), (0, .ref (t))]) hx hb dX1_trySounds_58 hl (by decide) rfl (fun ls hl => ?_)
          refine lv_iload hx hb dX1_trySounds_60 (lv_at hl 1 rfl) ?_
          refine lv_iconst (v := 1) hx hb dX1_trySounds_62 (by decide) ?_
          refine lv_iadd hx hb dX1_trySounds_63 ?_
          refine lv_topi (fun y98 ey99 => ?_)
          obtain ⟨k100, hk101, b102, b103⟩ := hq_add (i) (1)
          rw [← ey99] at hk101 b102 b103
          have hk101 : (y98).toInt = (i).toInt + (1 : Int) + k100 * 4294967296 := hk101
          refine lv_istore (lv' := [(7, .int (y98)), (5, .long (r90)), (4, .int (i)), (2, .long (r27)), (1, .int (y18)), (0, .ref (t))]) hx hb dX1_trySounds_64 hl (by decide) rfl (fun ls hl => ?_)
          suffices lp66 : ∀ (k9 : Nat) (V9 : hp_V) (H9 : Heap) (locs9 : List Loc) (ls : Array Slot) (j : Int32) (f8 : Int32), (100 - j.toInt).toNat = k9 → hp_Z D cs B s V9 H9 n locs9 → hq_P cs G (fun g => g.1 == 5 || g.1 == 7 || g.1 == 8 || g.1 == 13) V V9 → V9 (t) = some (.inr (1, [.ref (e_be), .ref (e_tr), .int (f8), .ref (e_st), .ref (e_en), .ref (e_wo), .ref (e_bk), .ref (e_an), .ref (e_mk), .int (e_sz), .ref (e_ki), .ref (e_mi), .ref (e_ta)])) → 0 ≤ j.toInt → j.toInt ≤ 60 → 0 ≤ f8.toInt ∧ f8.toInt ≤ 1 → lv_has ls 8 [(7, .int (j)), (5, .long (r90)), (4, .int (i)), (2, .long (r27)), (1, .int (y18)), (0, .ref (t))] → W p l e ({ frames := 6, cells := 0, slots := 0, locals := 143 }) s m ([.ref (t)] : List Value).toArray below meth c H9 locs9 0 0 (MQ below (hp_QV D cs B (fun V' n' => n = n' ∧ hq_P cs G (fun g => g.1 == 5 || g.1 == 7 || g.1 == 8 || g.1 == 13) V V' ∧ (∃ (e_fd1 : Int32), V' t = some (.inr (1, [.ref (e_be), .ref (e_tr), .int (e_fd1), .ref (e_st), .ref (e_en), .ref (e_wo), .ref (e_bk), .ref (e_an), .ref (e_mk), .int (e_sz), .ref (e_ki), .ref (e_mi), .ref (e_ta)])) ∧ (0 ≤ e_fd1.toInt ∧ e_fd1.toInt ≤ 1)))) ([.ref (t)] : List Value).toArray s 0 0 (hp_F B)) (F0 m 66 ls []) from lp66 _ _ _ _ ls (y98) (z94) rfl hZ hP ho95 (by omega) (by omega) (by omega) (lv_sub hl [0, 1, 2, 3, 4, 5] rfl)
          intro k9
          induction k9 using Nat.strongRecOn with
          | _ k9 ih66 =>
            intro V9 H9 locs9 ls j f8 hk66 hZ hP ho104 hv105 hv106 hv107 hl
            have hb_j := hq_rng j
            have hb_f8 := hq_rng f8
            have hP_66 := hP
            refine lv_iload hx hb dX1_trySounds_66 (lv_at hl 0 rfl) ?_
            refine lv_aload_n hx hb dX1_trySounds_68 rfl (lv_at hl 5 rfl) ?_
            refine hp_get (v := .ref (e_bk)) hx hb hts hown hZ ho104 fl_X1_50 rfl dX1_trySounds_69 ?_
            obtain ⟨u109, u110, u111, u112, z113, z114, z115, eV108, hu116, hu117, hu118, hu119, ⟨h120, h121⟩, ⟨h122, h123⟩, h124, h125⟩ := hq_o6 hP.1 h_e_bk
            refine hp_get (v := .int (z115)) hx hb hts hown hZ eV108 fl_X1_80 rfl dX1_trySounds_72 ?_
            refine lv_icmp_ge (tgt := 115) hx hb dX1_trySounds_75 (by decide) (fun c126 => ?_) (fun c126 => ?_)
            · have c126 : (z115).toInt ≤ (j).toInt := hq_lei.mp c126
              refine lv_aload_n hx hb dX1_trySounds_115 rfl (lv_at hl 5 rfl) ?_
              refine hp_get (v := .ref (e_tr)) hx hb hts hown hZ ho104 fl_X1_18 rfl dX1_trySounds_116 ?_
              refine lv_iconst (v := -1) hx hb dX1_trySounds_119 (by decide) ?_
              obtain ⟨z128, z129, z130, z131, z132, z133, z134, eV127, h135, h136⟩ := hq_o13 hP.1 h_e_tr
              refine hp_put hx hb hts hown hZ eV127 fp_X1_117 rfl rfl (Nat.le_of_ble_eq_true rfl) dX1_trySounds_120 (fun V137 _ _ e138 o139 hZ => ?_)
              have e138 : V137 (e_tr) = some (.inr (10, [.int (z128), .int (z129), .int (z130), .int (z131), .int (z132), .int (z133), .int (-1)])) := e138
              have hP := hP.put h_e_tr e138 o139 (hq_c13 (show -1 ≤ (z129).toInt ∧ (z129).toInt ≤ 59 by omega) (show -1 ≤ (z130).toInt ∧ (z130).toInt ≤ 59 by omega)) rfl
              obtain ⟨y140, ey141⟩ : ∃ y : Int32, y = i + (1) := ⟨_, rfl⟩
              obtain ⟨k142, hk143, b144, b145⟩ := hq_add (i) (1)
              rw [← ey141] at hk143 b144 b145
              have hk143 : (y140).toInt = (i).toInt + (1) + k142 * 4294967296 := hk143
              refine lv_iinc (v := y140) (lv' := [(4, .int (y140)), (7, .int (j)), (5, .long (r90)), (2, .long (r27)), (1, .int (y18)), (0, .ref (t))]) hx hb dX1_trySounds_123 hl (k := 2) rfl (by rw [ey141]; rfl) (by decide) rfl (fun ls hl => ?_)
              refine lv_goto (tgt := 18) hx hb dX1_trySounds_126 (by decide) ?_
              have fx146 : V137 (t) = some (.inr (1, [.ref (e_be), .ref (e_tr), .int (f8), .ref (e_st), .ref (e_en), .ref (e_wo), .ref (e_bk), .ref (e_an), .ref (e_mk), .int (e_sz), .ref (e_ki), .ref (e_mi), .ref (e_ta)])) := (o139 (t) (hq_tne h_t h_e_tr (by simp))).trans (ho104)
              exact ih18 _ (by omega) _ _ _ ls (y140) (f8) rfl hZ hP fx146 (by omega) (by omega) (by omega) (lv_sub hl [0, 3, 4, 5] rfl)
            · have c126 : ¬ (z115).toInt ≤ (j).toInt := fun h9 => c126 (hq_lei.mpr h9)
              refine lv_iload_n hx hb dX1_trySounds_78 rfl (lv_at hl 4 rfl) ?_
              refine lv_iconst (v := 1) hx hb dX1_trySounds_79 (by decide) ?_
              refine lv_icmp_le (tgt := 115) hx hb dX1_trySounds_80 (by decide) (fun c147 => ?_) (fun c147 => ?_)
              · have c147 : (y18).toInt ≤ (1 : Int) := hq_lei.mp c147
                refine lv_aload_n hx hb dX1_trySounds_115 rfl (lv_at hl 5 rfl) ?_
                refine hp_get (v := .ref (e_tr)) hx hb hts hown hZ ho104 fl_X1_18 rfl dX1_trySounds_116 ?_
                refine lv_iconst (v := -1) hx hb dX1_trySounds_119 (by decide) ?_
                obtain ⟨z149, z150, z151, z152, z153, z154, z155, eV148, h156, h157⟩ := hq_o13 hP.1 h_e_tr
                refine hp_put hx hb hts hown hZ eV148 fp_X1_117 rfl rfl (Nat.le_of_ble_eq_true rfl) dX1_trySounds_120 (fun V158 _ _ e159 o160 hZ => ?_)
                have e159 : V158 (e_tr) = some (.inr (10, [.int (z149), .int (z150), .int (z151), .int (z152), .int (z153), .int (z154), .int (-1)])) := e159
                have hP := hP.put h_e_tr e159 o160 (hq_c13 (show -1 ≤ (z150).toInt ∧ (z150).toInt ≤ 59 by omega) (show -1 ≤ (z151).toInt ∧ (z151).toInt ≤ 59 by omega)) rfl
                obtain ⟨y161, ey162⟩ : ∃ y : Int32, y = i + (1) := ⟨_, rfl⟩
                obtain ⟨k163, hk164, b165, b166⟩ := hq_add (i) (1)
                rw [← ey162] at hk164 b165 b166
                have hk164 : (y161).toInt = (i).toInt + (1) + k163 * 4294967296 := hk164
                refine lv_iinc (v := y161) (lv' := [(4, .int (y161)), (7, .int (j)), (5, .long (r90)), (2, .long (r27)), (1, .int (y18)), (0, .ref (t))]) hx hb dX1_trySounds_123 hl (k := 2) rfl (by rw [ey162]; rfl) (by decide) rfl (fun ls hl => ?_)
                refine lv_goto (tgt := 18) hx hb dX1_trySounds_126 (by decide) ?_
                have fx167 : V158 (t) = some (.inr (1, [.ref (e_be), .ref (e_tr), .int (f8), .ref (e_st), .ref (e_en), .ref (e_wo), .ref (e_bk), .ref (e_an), .ref (e_mk), .int (e_sz), .ref (e_ki), .ref (e_mi), .ref (e_ta)])) := (o160 (t) (hq_tne h_t h_e_tr (by simp))).trans (ho104)
                exact ih18 _ (by omega) _ _ _ ls (y161) (f8) rfl hZ hP fx167 (by omega) (by omega) (by omega) (lv_sub hl [0, 3, 4, 5] rfl)
              · have c147 : ¬ (y18).toInt ≤ (1 : Int) := fun h9 => c147 (hq_lei.mpr h9)
                refine lv_lload hx hb dX1_trySounds_83 (lv_at hl 1 rfl) ?_
                refine lv_iload hx hb dX1_trySounds_85 (lv_at hl 0 rfl) ?_
                refine lv_lushr (v := ((r90 : Int64).toUInt64 >>> ((j : Int32).toInt64.toUInt64 &&& Int64.toUInt64 63)).toInt64) hx hb dX1_trySounds_87 rfl ?_
                refine lv_topl (fun y168 ey169 => ?_)
                refine lv_lconst (v := 1) hx hb dX1_trySounds_88 (by decide) ?_
                refine lv_land hx hb dX1_trySounds_89 ?_
                refine lv_topl (fun y170 ey171 => ?_)
                refine lv_lconst (v := 0) hx hb dX1_trySounds_90 (by decide) ?_
                refine W.lcmp hx hb dX1_trySounds_91 ?_
                refine lv_topi (fun y172 ey173 => ?_)
                have b174 := hq_rng y172
                refine lv_if_eq (tgt := 109) hx hb dX1_trySounds_92 (by decide) (fun c175 => ?_) (fun c175 => ?_)
                · have c175 : (y172).toInt = (0 : Int) := hq_eqi.mp c175
                  obtain ⟨y176, ey177⟩ : ∃ y : Int32, y = j + (1) := ⟨_, rfl⟩
                  obtain ⟨k178, hk179, b180, b181⟩ := hq_add (j) (1)
                  rw [← ey177] at hk179 b180 b181
                  have hk179 : (y176).toInt = (j).toInt + (1) + k178 * 4294967296 := hk179
                  refine lv_iinc (v := y176) (lv' := [(7, .int (y176)), (5, .long (r90)), (4, .int (i)), (2, .long (r27)), (1, .int (y18)), (0, .ref (t))]) hx hb dX1_trySounds_109 hl (k := 0) rfl (by rw [ey177]; rfl) (by decide) rfl (fun ls hl => ?_)
                  refine lv_goto (tgt := 66) hx hb dX1_trySounds_112 (by decide) ?_
                  exact ih66 _ (by omega) _ _ _ ls (y176) (f8) rfl hZ hP ho104 (by omega) (by omega) (by omega) (lv_sub hl [0, 1, 2, 3, 4, 5] rfl)
                · have c175 : ¬ (y172).toInt = (0 : Int) := fun h9 => c175 (hq_eqi.mpr h9)
                  refine lv_aload_n hx hb dX1_trySounds_95 rfl (lv_at hl 5 rfl) ?_
                  refine hp_get (v := .ref (e_tr)) hx hb hts hown hZ ho104 fl_X1_18 rfl dX1_trySounds_96 ?_
                  refine lv_iload hx hb dX1_trySounds_99 (lv_at hl 0 rfl) ?_
                  obtain ⟨z183, z184, z185, z186, z187, z188, z189, eV182, h190, h191⟩ := hq_o13 hP.1 h_e_tr
                  refine hp_put hx hb hts hown hZ eV182 fp_X1_117 rfl rfl (Nat.le_of_ble_eq_true rfl) dX1_trySounds_101 (fun V192 _ _ e193 o194 hZ => ?_)
                  have e193 : V192 (e_tr) = some (.inr (10, [.int (z183), .int (z184), .int (z185), .int (z186), .int (z187), .int (z188), .int (j)])) := e193
                  have hP := hP.put h_e_tr e193 o194 (hq_c13 (show -1 ≤ (z184).toInt ∧ (z184).toInt ≤ 59 by omega) (show -1 ≤ (z185).toInt ∧ (z185).toInt ≤ 59 by omega)) rfl
                  refine lv_aload_n hx hb dX1_trySounds_104 rfl (lv_at hl 5 rfl) ?_
                  have fx201 : V192 (t) = some (.inr (1, [.ref (e_be), .ref (e_tr), .int (f8), .ref (e_st), .ref (e_en), .ref (e_wo), .ref (e_bk), .ref (e_an), .ref (e_mk), .int (e_sz), .ref (e_ki), .ref (e_mi), .ref (e_ta)])) := (o194 (t) (hq_tne h_t h_e_tr (by simp))).trans (ho104)
                  refine hp_calll (hp_runV (As := []) (rest := []) hx hb hml hown hts (t_X1_tryWord l D cs B G  V192 n hP.1 _ (t) h_t fx201 h_e_be h_e_tr h_e_st h_e_en h_e_wo h_e_bk h_e_an h_e_mk h_e_ki h_e_mi h_e_ta (by omega) (by omega) ) hZ fx201 cv_X1_144 rfl rfl ⟨Nat.le_of_ble_eq_true rfl, Nat.le_of_ble_eq_true rfl⟩ rfl hl.1 rfl (Nat.le_of_ble_eq_true rfl) dX1_trySounds_105 ⟨(Nat.le_of_ble_eq_true rfl), (Nat.le_of_ble_eq_true rfl)⟩) hZ (fun r198 V195 n196 _ _ hw197 hZ => ?_)
                  obtain ⟨rfl, hq199, ⟨z202, ho203, hi204⟩, hr200⟩ := hw197
                  have hP := hP.trans hq199 (by intro g h; simp_all)
                  have b205 := hq_rng z202
                  refine lv_pop2_2 hx hb dX1_trySounds_108 rfl ?_
                  obtain ⟨y206, ey207⟩ : ∃ y : Int32, y = j + (1) := ⟨_, rfl⟩
                  obtain ⟨k208, hk209, b210, b211⟩ := hq_add (j) (1)
                  rw [← ey207] at hk209 b210 b211
                  have hk209 : (y206).toInt = (j).toInt + (1) + k208 * 4294967296 := hk209
                  refine lv_iinc (v := y206) (lv' := [(7, .int (y206)), (5, .long (r90)), (4, .int (i)), (2, .long (r27)), (1, .int (y18)), (0, .ref (t))]) hx hb dX1_trySounds_109 hl (k := 0) rfl (by rw [ey207]; rfl) (by decide) rfl (fun ls hl => ?_)
                  refine lv_goto (tgt := 66) hx hb dX1_trySounds_112 (by decide) ?_
                  exact ih66 _ (by omega) _ _ _ ls (y206) (z202) rfl hZ hP ho203 (by omega) (by omega) (by omega) (lv_sub hl [0, 1, 2, 3, 4, 5] rfl)

set_option maxHeartbeats 4000000 in
set_option maxRecDepth 100000 in
theorem t_X1_putStem (l : Launch) (D : va_G) (cs : Nat → ClassId) (B : Nat) (G : hq_G) (V : hp_V) (n : Nat) (hI : hq_I cs G V) (b : Nat) (t : Nat) (h_t : G t = some (14, 0, 0, 0)) (v : Int32) (k : Int32) {e_be e_tr e_st e_en e_wo e_bk e_an e_mk e_ki e_mi e_ta : Nat} {e_fd e_sz : Int32} (ho_t : V t = some (.inr (1, [.ref (e_be), .ref (e_tr), .int (e_fd), .ref (e_st), .ref (e_en), .ref (e_wo), .ref (e_bk), .ref (e_an), .ref (e_mk), .int (e_sz), .ref (e_ki), .ref (e_mi), .ref (e_ta)]))) (h_e_be : G e_be = some (13, 0, 0, 0)) (h_e_tr : G e_tr = some (13, 0, 0, 0)) (h_e_st : G e_st = some (0, 30, 0, 0)) (h_e_en : G e_en = some (0, 30, 0, 0)) (h_e_wo : G e_wo = some (0, 30, 0, 0)) (h_e_bk : G e_bk = some (6, b, 0, 0)) (h_e_an : G e_an = some (0, 4000, 0, 0)) (h_e_mk : G e_mk = some (11, 0, 0, 0)) (h_e_ki : G e_ki = some (2, 8, 2, 0)) (h_e_mi : G e_mi = some (2, 8, 2, 0)) (h_e_ta : G e_ta = some (2, 8, 2, 0)) (hi_t0 : 0 ≤ e_fd.toInt ∧ e_fd.toInt ≤ 1) (hi_t1 : 0 ≤ e_sz.toInt ∧ e_sz.toInt ≤ 2) (hv0 : 0 ≤ v.toInt) (hv1 : v.toInt < 30) : hp_M l yX1_putStem cX1_putStem 3 (some .boolean) ({ frames := 4, cells := 0, slots := 0, locals := 91 }) D cs B V n [.ref (t), .int (v), .int (k)] (hp_QI D cs B (fun r V' n' => n = n' ∧ hq_P cs G (fun g => g.1 == 5 || g.1 == 13) V V' ∧ (V' t = some (.inr (1, [.ref (e_be), .ref (e_tr), .int (e_fd), .ref (e_st), .ref (e_en), .ref (e_wo), .ref (e_bk), .ref (e_an), .ref (e_mk), .int (e_sz), .ref (e_ki), .ref (e_mi), .ref (e_ta)]))) ∧ (0 ≤ r.toInt ∧ r.toInt ≤ 1))) 0 0 := by
  refine hp_walk (R0 := RX1) (by decide) rfl ?_ (Nat.le_of_ble_eq_true rfl)
  intro p e s m below meth c ls hx hb hr hts hown hlocks hin hml hZ hl
  have hP : hq_P cs G (fun g => g.1 == 5 || g.1 == 13) V V := hq_P.rf hI
  have hl : lv_has ls 3 [(0, .ref (t)), (1, .int (v)), (2, .int (k))] := hl
  have hb_v := hq_rng v
  have hb_k := hq_rng k
  have hb_e_fd := hq_rng e_fd
  have hb_e_sz := hq_rng e_sz
  refine lv_aload_n hx hb dX1_putStem_0 rfl (lv_at hl 0 rfl) ?_
  refine hp_get (v := .ref (e_tr)) hx hb hts hown hZ ho_t fl_X1_18 rfl dX1_putStem_1 ?_
  refine lv_iload_n hx hb dX1_putStem_4 rfl (lv_at hl 2 rfl) ?_
  obtain ⟨z2, z3, z4, z5, z6, z7, z8, eV1, h9, h10⟩ := hq_o13 hP.1 h_e_tr
  refine hp_put hx hb hts hown hZ eV1 fp_X1_101 rfl rfl (Nat.le_of_ble_eq_true rfl) dX1_putStem_5 (fun V11 _ _ e12 o13 hZ => ?_)
  have e12 : V11 (e_tr) = some (.inr (10, [.int (z2), .int (z3), .int (z4), .int (k), .int (z6), .int (z7), .int (z8)])) := e12
  have hP := hP.put h_e_tr e12 o13 (hq_c13 (show -1 ≤ (z3).toInt ∧ (z3).toInt ≤ 59 by omega) (show -1 ≤ (z4).toInt ∧ (z4).toInt ≤ 59 by omega)) rfl
  refine lv_iload_n hx hb dX1_putStem_8 rfl (lv_at hl 2 rfl) ?_
  refine lv_bipush (v := -2) hx hb dX1_putStem_9 (by decide) ?_
  refine lv_icmp_ne (tgt := 36) hx hb dX1_putStem_11 (by decide) (fun c14 => ?_) (fun c14 => ?_)
  · have c14 : ¬ (k).toInt = (-2 : Int) := fun h9 => c14 (hq_eqi.mpr h9)
    refine lv_iload_n hx hb dX1_putStem_36 rfl (lv_at hl 2 rfl) ?_
    refine lv_iconst (v := -1) hx hb dX1_putStem_37 (by decide) ?_
    refine lv_icmp_ne (tgt := 72) hx hb dX1_putStem_38 (by decide) (fun c15 => ?_) (fun c15 => ?_)
    · have c15 : ¬ (k).toInt = (-1 : Int) := fun h9 => c15 (hq_eqi.mpr h9)
      refine lv_aload_n hx hb dX1_putStem_72 rfl (lv_at hl 0 rfl) ?_
      refine lv_iload_n hx hb dX1_putStem_73 rfl (lv_at hl 2 rfl) ?_
      refine lv_iconst (v := 0) hx hb dX1_putStem_74 (by decide) ?_
      refine lv_aload_n hx hb dX1_putStem_75 rfl (lv_at hl 0 rfl) ?_
      have fx16 : V11 (t) = some (.inr (1, [.ref (e_be), .ref (e_tr), .int (e_fd), .ref (e_st), .ref (e_en), .ref (e_wo), .ref (e_bk), .ref (e_an), .ref (e_mk), .int (e_sz), .ref (e_ki), .ref (e_mi), .ref (e_ta)])) := (o13 (t) (hq_tne h_t h_e_tr (by simp))).trans (ho_t)
      refine hp_get (v := .ref (e_tr)) hx hb hts hown hZ fx16 fl_X1_18 rfl dX1_putStem_76 ?_
      refine hp_get (v := .int (z3)) hx hb hts hown hZ e12 fl_X1_70 rfl dX1_putStem_79 ?_
      have hl24 : (0 : Int32).toInt = 0 := by decide
      refine hp_calli (hp_runV (As := [.int (k), .int (0), .int (z3)]) (rest := []) hx hb hml hown hts (t_X1_isOther l D cs B G  V11 n hP.1 _ (t) h_t (k) (0) (z3) fx16 h_e_be h_e_tr h_e_st h_e_en h_e_wo h_e_bk h_e_an h_e_mk h_e_ki h_e_mi h_e_ta (by omega) (by omega) ) hZ fx16 cv_X1_107 rfl rfl ⟨Nat.le_of_ble_eq_true rfl, Nat.le_of_ble_eq_true rfl⟩ rfl hl.1 rfl (Nat.le_of_ble_eq_true rfl) dX1_putStem_82 ⟨(Nat.le_of_ble_eq_true rfl), (Nat.le_of_ble_eq_true rfl)⟩) hZ (fun r20 V17 n18 _ _ hw19 hZ => ?_)
      obtain ⟨rfl, hq21, ho23, hr22⟩ := hw19
      have hP := hP.trans hq21 (fun _ _ => rfl)
      have b25 := hq_rng r20
      refine lv_if_eq (tgt := 108) hx hb dX1_putStem_85 (by decide) (fun c26 => ?_) (fun c26 => ?_)
      · have c26 : (r20).toInt = (0 : Int) := hq_eqi.mp c26
        refine lv_iconst (v := 0) hx hb dX1_putStem_108 (by decide) ?_
        exact hp_zret hx hb hr rfl hlocks hZ ⟨rfl, hP, ho23, (by decide)⟩ dX1_putStem_109
      · have c26 : ¬ (r20).toInt = (0 : Int) := fun h9 => c26 (hq_eqi.mpr h9)
        refine lv_aload_n hx hb dX1_putStem_88 rfl (lv_at hl 0 rfl) ?_
        refine hp_get (v := .ref (e_bk)) hx hb hts hown hZ ho23 fl_X1_50 rfl dX1_putStem_89 ?_
        refine lv_iload_n hx hb dX1_putStem_92 rfl (lv_at hl 1 rfl) ?_
        refine lv_iload_n hx hb dX1_putStem_93 rfl (lv_at hl 2 rfl) ?_
        refine lv_aload_n hx hb dX1_putStem_94 rfl (lv_at hl 0 rfl) ?_
        refine hp_get (v := .ref (e_st)) hx hb hts hown hZ ho23 fl_X1_26 rfl dX1_putStem_95 ?_
        obtain ⟨u34, u35, u36, u37, z38, z39, z40, eV33, hu41, hu42, hu43, hu44, ⟨h45, h46⟩, ⟨h47, h48⟩, h49, h50⟩ := hq_o6 hP.1 h_e_bk
        refine hp_calli (hp_runV (As := [.int (v), .int (k), .ref (e_st)]) (rest := []) hx hb hml hown hts (t_X0_putStem l D cs B G  V17 n hP.1 _ (e_bk) h_e_bk (v) (k) (e_st) h_e_st (by omega) (by omega) (by omega) (by omega)) hZ eV33 cv_X1_104 rfl rfl ⟨Nat.le_of_ble_eq_true rfl, Nat.le_of_ble_eq_true rfl⟩ rfl hl.1 rfl (Nat.le_of_ble_eq_true rfl) dX1_putStem_98 ⟨(Nat.le_of_ble_eq_true rfl), (Nat.le_of_ble_eq_true rfl)⟩) hZ (fun r30 V27 n28 _ _ hw29 hZ => ?_)
        obtain ⟨rfl, hq31, hr32⟩ := hw29
        have hP := hP.trans hq31 (by intro g h; simp_all)
        have b51 := hq_rng r30
        refine lv_if_eq (tgt := 108) hx hb dX1_putStem_101 (by decide) (fun c52 => ?_) (fun c52 => ?_)
        · have c52 : (r30).toInt = (0 : Int) := hq_eqi.mp c52
          refine lv_iconst (v := 0) hx hb dX1_putStem_108 (by decide) ?_
          have fx53 : V27 (t) = some (.inr (1, [.ref (e_be), .ref (e_tr), .int (e_fd), .ref (e_st), .ref (e_en), .ref (e_wo), .ref (e_bk), .ref (e_an), .ref (e_mk), .int (e_sz), .ref (e_ki), .ref (e_mi), .ref (e_ta)])) := (hq31.2 (t) _ h_t rfl).trans (ho23)
          exact hp_zret hx hb hr rfl hlocks hZ ⟨rfl, hP, fx53, (by decide)⟩ dX1_putStem_109
        · have c52 : ¬ (r30).toInt = (0 : Int) := fun h9 => c52 (hq_eqi.mpr h9)
          refine lv_iconst (v := 1) hx hb dX1_putStem_104 (by decide) ?_
          refine lv_goto (tgt := 109) hx hb dX1_putStem_105 (by decide) ?_
          have fx54 : V27 (t) = some (.inr (1, [.ref (e_be), .ref (e_tr), .int (e_fd), .ref (e_st), .ref (e_en), .ref (e_wo), .ref (e_bk), .ref (e_an), .ref (e_mk), .int (e_sz), .ref (e_ki), .ref (e_mi), .ref (e_ta)])) := (hq31.2 (t) _ h_t rfl).trans (ho23)
          exact hp_zret hx hb hr rfl hlocks hZ ⟨rfl, hP, fx54, (by decide)⟩ dX1_putStem_109
    · have c15 : (k).toInt = (-1 : Int) := hq_eqi.mp c15
      refine lv_aload_n hx hb dX1_putStem_41 rfl (lv_at hl 0 rfl) ?_
      have fx55 : V11 (t) = some (.inr (1, [.ref (e_be), .ref (e_tr), .int (e_fd), .ref (e_st), .ref (e_en), .ref (e_wo), .ref (e_bk), .ref (e_an), .ref (e_mk), .int (e_sz), .ref (e_ki), .ref (e_mi), .ref (e_ta)])) := (o13 (t) (hq_tne h_t h_e_tr (by simp))).trans (ho_t)
      refine hp_get (v := .ref (e_bk)) hx hb hts hown hZ fx55 fl_X1_50 rfl dX1_putStem_42 ?_
      refine lv_iload_n hx hb dX1_putStem_45 rfl (lv_at hl 1 rfl) ?_
      refine lv_iconst (v := -1) hx hb dX1_putStem_46 (by decide) ?_
      refine lv_aload_n hx hb dX1_putStem_47 rfl (lv_at hl 0 rfl) ?_
      refine hp_get (v := .ref (e_st)) hx hb hts hown hZ fx55 fl_X1_26 rfl dX1_putStem_48 ?_
      have hl62 : (-1 : Int32).toInt = -1 := by decide
      obtain ⟨u64, u65, u66, u67, z68, z69, z70, eV63, hu71, hu72, hu73, hu74, ⟨h75, h76⟩, ⟨h77, h78⟩, h79, h80⟩ := hq_o6 hP.1 h_e_bk
      refine hp_calli (hp_runV (As := [.int (v), .int (-1), .ref (e_st)]) (rest := []) hx hb hml hown hts (t_X0_putStem l D cs B G  V11 n hP.1 _ (e_bk) h_e_bk (v) (-1) (e_st) h_e_st (by omega) (by omega) (by omega) (by omega)) hZ eV63 cv_X1_104 rfl rfl ⟨Nat.le_of_ble_eq_true rfl, Nat.le_of_ble_eq_true rfl⟩ rfl hl.1 rfl (Nat.le_of_ble_eq_true rfl) dX1_putStem_51 ⟨(Nat.le_of_ble_eq_true rfl), (Nat.le_of_ble_eq_true rfl)⟩) hZ (fun r59 V56 n57 _ _ hw58 hZ => ?_)
      obtain ⟨rfl, hq60, hr61⟩ := hw58
      have hP := hP.trans hq60 (by intro g h; simp_all)
      have b81 := hq_rng r59
      refine lv_pop hx hb dX1_putStem_54 rfl ?_
      refine lv_aload_n hx hb dX1_putStem_55 rfl (lv_at hl 0 rfl) ?_
      have fx82 : V56 (t) = some (.inr (1, [.ref (e_be), .ref (e_tr), .int (e_fd), .ref (e_st), .ref (e_en), .ref (e_wo), .ref (e_bk), .ref (e_an), .ref (e_mk), .int (e_sz), .ref (e_ki), .ref (e_mi), .ref (e_ta)])) := (hq60.2 (t) _ h_t rfl).trans (fx55)
      refine hp_get (v := .ref (e_tr)) hx hb hts hown hZ fx82 fl_X1_18 rfl dX1_putStem_56 ?_
      have fx83 : V56 (e_tr) = some (.inr (10, [.int (z2), .int (z3), .int (z4), .int (k), .int (z6), .int (z7), .int (z8)])) := (hq60.2 (e_tr) _ h_e_tr rfl).trans (e12)
      refine hp_get (v := .int (z3)) hx hb hts hown hZ fx83 fl_X1_70 rfl dX1_putStem_59 ?_
      refine lv_iconst (v := -1) hx hb dX1_putStem_62 (by decide) ?_
      refine lv_icmp_eq (tgt := 70) hx hb dX1_putStem_63 (by decide) (fun c84 => ?_) (fun c84 => ?_)
      · have c84 : (z3).toInt = (-1 : Int) := hq_eqi.mp c84
        refine lv_iconst (v := 0) hx hb dX1_putStem_70 (by decide) ?_
        exact hp_zret hx hb hr rfl hlocks hZ ⟨rfl, hP, fx82, (by decide)⟩ dX1_putStem_71
      · have c84 : ¬ (z3).toInt = (-1 : Int) := fun h9 => c84 (hq_eqi.mpr h9)
        refine lv_iconst (v := 1) hx hb dX1_putStem_66 (by decide) ?_
        refine lv_goto (tgt := 71) hx hb dX1_putStem_67 (by decide) ?_
        exact hp_zret hx hb hr rfl hlocks hZ ⟨rfl, hP, fx82, (by decide)⟩ dX1_putStem_71
  · have c14 : (k).toInt = (-2 : Int) := hq_eqi.mp c14
    refine lv_aload_n hx hb dX1_putStem_14 rfl (lv_at hl 0 rfl) ?_
    have fx85 : V11 (t) = some (.inr (1, [.ref (e_be), .ref (e_tr), .int (e_fd), .ref (e_st), .ref (e_en), .ref (e_wo), .ref (e_bk), .ref (e_an), .ref (e_mk), .int (e_sz), .ref (e_ki), .ref (e_mi), .ref (e_ta)])) := (o13 (t) (hq_tne h_t h_e_tr (by simp))).trans (ho_t)
    refine hp_get (v := .ref (e_bk)) hx hb hts hown hZ fx85 fl_X1_50 rfl dX1_putStem_15 ?_
    refine lv_iload_n hx hb dX1_putStem_18 rfl (lv_at hl 1 rfl) ?_
    refine lv_aload_n hx hb dX1_putStem_19 rfl (lv_at hl 0 rfl) ?_
    refine hp_get (v := .ref (e_tr)) hx hb hts hown hZ fx85 fl_X1_18 rfl dX1_putStem_20 ?_
    refine hp_get (v := .int (z3)) hx hb hts hown hZ e12 fl_X1_70 rfl dX1_putStem_23 ?_
    refine lv_aload_n hx hb dX1_putStem_26 rfl (lv_at hl 0 rfl) ?_
    refine hp_get (v := .ref (e_st)) hx hb hts hown hZ fx85 fl_X1_26 rfl dX1_putStem_27 ?_
    obtain ⟨u93, u94, u95, u96, z97, z98, z99, eV92, hu100, hu101, hu102, hu103, ⟨h104, h105⟩, ⟨h106, h107⟩, h108, h109⟩ := hq_o6 hP.1 h_e_bk
    refine hp_calli (hp_runV (As := [.int (v), .int (z3), .ref (e_st)]) (rest := []) hx hb hml hown hts (t_X0_putStem l D cs B G  V11 n hP.1 _ (e_bk) h_e_bk (v) (z3) (e_st) h_e_st (by omega) (by omega) (by omega) (by omega)) hZ eV92 cv_X1_104 rfl rfl ⟨Nat.le_of_ble_eq_true rfl, Nat.le_of_ble_eq_true rfl⟩ rfl hl.1 rfl (Nat.le_of_ble_eq_true rfl) dX1_putStem_30 ⟨(Nat.le_of_ble_eq_true rfl), (Nat.le_of_ble_eq_true rfl)⟩) hZ (fun r89 V86 n87 _ _ hw88 hZ => ?_)
    obtain ⟨rfl, hq90, hr91⟩ := hw88
    have hP := hP.trans hq90 (by intro g h; simp_all)
    have b110 := hq_rng r89
    refine lv_pop hx hb dX1_putStem_33 rfl ?_
    refine lv_iconst (v := 1) hx hb dX1_putStem_34 (by decide) ?_
    have fx111 : V86 (t) = some (.inr (1, [.ref (e_be), .ref (e_tr), .int (e_fd), .ref (e_st), .ref (e_en), .ref (e_wo), .ref (e_bk), .ref (e_an), .ref (e_mk), .int (e_sz), .ref (e_ki), .ref (e_mi), .ref (e_ta)])) := (hq90.2 (t) _ h_t rfl).trans (fx85)
    exact hp_zret hx hb hr rfl hlocks hZ ⟨rfl, hP, fx111, (by decide)⟩ dX1_putStem_35

set_option maxHeartbeats 4000000 in
set_option maxRecDepth 100000 in
theorem t_X1_putEnding (l : Launch) (D : va_G) (cs : Nat → ClassId) (B : Nat) (G : hq_G) (V : hp_V) (n : Nat) (hI : hq_I cs G V) (b : Nat) (t : Nat) (h_t : G t = some (14, 0, 0, 0)) (k : Int32) {e_be e_tr e_st e_en e_wo e_bk e_an e_mk e_ki e_mi e_ta : Nat} {e_fd e_sz : Int32} (ho_t : V t = some (.inr (1, [.ref (e_be), .ref (e_tr), .int (e_fd), .ref (e_st), .ref (e_en), .ref (e_wo), .ref (e_bk), .ref (e_an), .ref (e_mk), .int (e_sz), .ref (e_ki), .ref (e_mi), .ref (e_ta)]))) (h_e_be : G e_be = some (13, 0, 0, 0)) (h_e_tr : G e_tr = some (13, 0, 0, 0)) (h_e_st : G e_st = some (0, 30, 0, 0)) (h_e_en : G e_en = some (0, 30, 0, 0)) (h_e_wo : G e_wo = some (0, 30, 0, 0)) (h_e_bk : G e_bk = some (6, b, 0, 0)) (h_e_an : G e_an = some (0, 4000, 0, 0)) (h_e_mk : G e_mk = some (11, 0, 0, 0)) (h_e_ki : G e_ki = some (2, 8, 2, 0)) (h_e_mi : G e_mi = some (2, 8, 2, 0)) (h_e_ta : G e_ta = some (2, 8, 2, 0)) (hi_t0 : 0 ≤ e_fd.toInt ∧ e_fd.toInt ≤ 1) (hi_t1 : 0 ≤ e_sz.toInt ∧ e_sz.toInt ≤ 2) : hp_M l yX1_putEnding cX1_putEnding 3 (some .boolean) ({ frames := 3, cells := 0, slots := 0, locals := 66 }) D cs B V n [.ref (t), .int (k)] (hp_QI D cs B (fun r V' n' => n = n' ∧ hq_P cs G (fun g => g.1 == 5 || g.1 == 13) V V' ∧ (V' t = some (.inr (1, [.ref (e_be), .ref (e_tr), .int (e_fd), .ref (e_st), .ref (e_en), .ref (e_wo), .ref (e_bk), .ref (e_an), .ref (e_mk), .int (e_sz), .ref (e_ki), .ref (e_mi), .ref (e_ta)]))) ∧ (0 ≤ r.toInt ∧ r.toInt ≤ 1))) 0 0 := by
  refine hp_walk (R0 := RX1) (by decide) rfl ?_ (Nat.le_of_ble_eq_true rfl)
  intro p e s m below meth c ls hx hb hr hts hown hlocks hin hml hZ hl
  have hP : hq_P cs G (fun g => g.1 == 5 || g.1 == 13) V V := hq_P.rf hI
  have hl : lv_has ls 3 [(0, .ref (t)), (1, .int (k))] := hl
  have hb_k := hq_rng k
  have hb_e_fd := hq_rng e_fd
  have hb_e_sz := hq_rng e_sz
  refine lv_iload_n hx hb dX1_putEnding_0 rfl (lv_at hl 1 rfl) ?_
  refine lv_bipush (v := -2) hx hb dX1_putEnding_1 (by decide) ?_
  refine lv_icmp_ne (tgt := 16) hx hb dX1_putEnding_3 (by decide) (fun c1 => ?_) (fun c1 => ?_)
  · have c1 : ¬ (k).toInt = (-2 : Int) := fun h9 => c1 (hq_eqi.mpr h9)
    refine lv_iload_n hx hb dX1_putEnding_16 rfl (lv_at hl 1 rfl) ?_
    refine lv_istore_n (lv' := [(2, .int (k)), (0, .ref (t)), (1, .int (k))]) hx hb dX1_putEnding_17 rfl hl (by decide) rfl (fun ls hl => ?_)
    refine lv_iload_n hx hb dX1_putEnding_18 rfl (lv_at hl 2 rfl) ?_
    refine lv_bipush (v := 60) hx hb dX1_putEnding_19 (by decide) ?_
    refine lv_icmp_eq (tgt := 48) hx hb dX1_putEnding_21 (by decide) (fun c2 => ?_) (fun c2 => ?_)
    · have c2 : (k).toInt = (60 : Int) := hq_eqi.mp c2
      refine lv_aload_n hx hb dX1_putEnding_48 rfl (lv_at hl 1 rfl) ?_
      refine hp_get (v := .ref (e_tr)) hx hb hts hown hZ ho_t fl_X1_18 rfl dX1_putEnding_49 ?_
      refine lv_iload_n hx hb dX1_putEnding_52 rfl (lv_at hl 2 rfl) ?_
      obtain ⟨z4, z5, z6, z7, z8, z9, z10, eV3, h11, h12⟩ := hq_o13 hP.1 h_e_tr
      refine hp_put hx hb hts hown hZ eV3 fp_X1_111 rfl rfl (Nat.le_of_ble_eq_true rfl) dX1_putEnding_53 (fun V13 _ _ e14 o15 hZ => ?_)
      have e14 : V13 (e_tr) = some (.inr (10, [.int (z4), .int (z5), .int (z6), .int (z7), .int (k), .int (z9), .int (z10)])) := e14
      have hP := hP.put h_e_tr e14 o15 (hq_c13 (show -1 ≤ (z5).toInt ∧ (z5).toInt ≤ 59 by omega) (show -1 ≤ (z6).toInt ∧ (z6).toInt ≤ 59 by omega)) rfl
      refine lv_aload_n hx hb dX1_putEnding_56 rfl (lv_at hl 1 rfl) ?_
      have fx16 : V13 (t) = some (.inr (1, [.ref (e_be), .ref (e_tr), .int (e_fd), .ref (e_st), .ref (e_en), .ref (e_wo), .ref (e_bk), .ref (e_an), .ref (e_mk), .int (e_sz), .ref (e_ki), .ref (e_mi), .ref (e_ta)])) := (o15 (t) (hq_tne h_t h_e_tr (by simp))).trans (ho_t)
      refine hp_get (v := .ref (e_tr)) hx hb hts hown hZ fx16 fl_X1_18 rfl dX1_putEnding_57 ?_
      refine lv_iconst (v := -1) hx hb dX1_putEnding_60 (by decide) ?_
      refine hp_put hx hb hts hown hZ e14 fp_X1_114 rfl rfl (Nat.le_of_ble_eq_true rfl) dX1_putEnding_61 (fun V17 _ _ e18 o19 hZ => ?_)
      have e18 : V17 (e_tr) = some (.inr (10, [.int (z4), .int (z5), .int (z6), .int (z7), .int (k), .int (-1), .int (z10)])) := e18
      have hP := hP.put h_e_tr e18 o19 (hq_c13 (show -1 ≤ (z5).toInt ∧ (z5).toInt ≤ 59 by omega) (show -1 ≤ (z6).toInt ∧ (z6).toInt ≤ 59 by omega)) rfl
      refine lv_aload_n hx hb dX1_putEnding_64 rfl (lv_at hl 1 rfl) ?_
      have fx20 : V17 (t) = some (.inr (1, [.ref (e_be), .ref (e_tr), .int (e_fd), .ref (e_st), .ref (e_en), .ref (e_wo), .ref (e_bk), .ref (e_an), .ref (e_mk), .int (e_sz), .ref (e_ki), .ref (e_mi), .ref (e_ta)])) := (o19 (t) (hq_tne h_t h_e_tr (by simp))).trans (fx16)
      refine hp_get (v := .ref (e_tr)) hx hb hts hown hZ fx20 fl_X1_18 rfl dX1_putEnding_65 ?_
      refine lv_iconst (v := -1) hx hb dX1_putEnding_68 (by decide) ?_
      refine hp_put hx hb hts hown hZ e18 fp_X1_117 rfl rfl (Nat.le_of_ble_eq_true rfl) dX1_putEnding_69 (fun V21 _ _ e22 o23 hZ => ?_)
      have e22 : V21 (e_tr) = some (.inr (10, [.int (z4), .int (z5), .int (z6), .int (z7), .int (k), .int (-1), .int (-1)])) := e22
      have hP := hP.put h_e_tr e22 o23 (hq_c13 (show -1 ≤ (z5).toInt ∧ (z5).toInt ≤ 59 by omega) (show -1 ≤ (z6).toInt ∧ (z6).toInt ≤ 59 by omega)) rfl
      refine lv_aload_n hx hb dX1_putEnding_72 rfl (lv_at hl 1 rfl) ?_
      have fx24 : V21 (t) = some (.inr (1, [.ref (e_be), .ref (e_tr), .int (e_fd), .ref (e_st), .ref (e_en), .ref (e_wo), .ref (e_bk), .ref (e_an), .ref (e_mk), .int (e_sz), .ref (e_ki), .ref (e_mi), .ref (e_ta)])) := (o23 (t) (hq_tne h_t h_e_tr (by simp))).trans (fx20)
      refine hp_get (v := .ref (e_en)) hx hb hts hown hZ fx24 fl_X1_30 rfl dX1_putEnding_73 ?_
      refine lv_aload_n hx hb dX1_putEnding_76 rfl (lv_at hl 1 rfl) ?_
      refine hp_get (v := .ref (e_st)) hx hb hts hown hZ fx24 fl_X1_26 rfl dX1_putEnding_77 ?_
      obtain ⟨u32, z33, eV31, hu34, h35, h36, h37⟩ := hq_o0 hP.1 h_e_en
      refine hp_callv (hp_runV (As := [.ref (e_st)]) (rest := []) hx hb hml hown hts (t_X9_set l D cs B G (fun g => g.1 == 5) V21 n hP.1 _ _ (e_en) h_e_en (e_st) h_e_st rfl rfl) hZ eV31 cv_X1_120 rfl rfl ⟨Nat.le_of_ble_eq_true rfl, Nat.le_of_ble_eq_true rfl⟩ rfl hl.1 rfl (Nat.le_of_ble_eq_true rfl) dX1_putEnding_80 ⟨(Nat.le_of_ble_eq_true rfl), (Nat.le_of_ble_eq_true rfl)⟩) hZ (fun V25 n26 _ _ hw27 hZ => ?_)
      obtain ⟨rfl, hq29⟩ := hw27
      have hP := hP.trans hq29 (by intro g h; simp_all)
      refine lv_iload_n hx hb dX1_putEnding_83 rfl (lv_at hl 2 rfl) ?_
      refine lv_bipush (v := 60) hx hb dX1_putEnding_84 (by decide) ?_
      refine lv_icmp_eq (tgt := 116) hx hb dX1_putEnding_86 (by decide) (fun c38 => ?_) (fun c38 => ?_)
      · have c38 : (k).toInt = (60 : Int) := hq_eqi.mp c38
        refine lv_iconst (v := 1) hx hb dX1_putEnding_116 (by decide) ?_
        refine lv_goto (tgt := 121) hx hb dX1_putEnding_117 (by decide) ?_
        have fx39 : V25 (t) = some (.inr (1, [.ref (e_be), .ref (e_tr), .int (e_fd), .ref (e_st), .ref (e_en), .ref (e_wo), .ref (e_bk), .ref (e_an), .ref (e_mk), .int (e_sz), .ref (e_ki), .ref (e_mi), .ref (e_ta)])) := (hq29.2 (t) _ h_t rfl).trans (fx24)
        exact hp_zret hx hb hr rfl hlocks hZ ⟨rfl, hP, fx39, (by decide)⟩ dX1_putEnding_121
      · have c38 : ¬ (k).toInt = (60 : Int) := fun h9 => c38 (hq_eqi.mpr h9)
        refine lv_iload_n hx hb dX1_putEnding_89 rfl (lv_at hl 0 rfl) ?_
        refine lv_iconst (v := -1) hx hb dX1_putEnding_90 (by decide) ?_
        refine lv_icmp_eq (tgt := 120) hx hb dX1_putEnding_91 (by decide) (fun c40 => ?_) (fun c40 => ?_)
        · have c40 : (k).toInt = (-1 : Int) := hq_eqi.mp c40
          refine lv_iconst (v := 0) hx hb dX1_putEnding_120 (by decide) ?_
          have fx41 : V25 (t) = some (.inr (1, [.ref (e_be), .ref (e_tr), .int (e_fd), .ref (e_st), .ref (e_en), .ref (e_wo), .ref (e_bk), .ref (e_an), .ref (e_mk), .int (e_sz), .ref (e_ki), .ref (e_mi), .ref (e_ta)])) := (hq29.2 (t) _ h_t rfl).trans (fx24)
          exact hp_zret hx hb hr rfl hlocks hZ ⟨rfl, hP, fx41, (by decide)⟩ dX1_putEnding_121
        · have c40 : ¬ (k).toInt = (-1 : Int) := fun h9 => c40 (hq_eqi.mpr h9)
          refine lv_aload_n hx hb dX1_putEnding_94 rfl (lv_at hl 1 rfl) ?_
          have fx42 : V25 (t) = some (.inr (1, [.ref (e_be), .ref (e_tr), .int (e_fd), .ref (e_st), .ref (e_en), .ref (e_wo), .ref (e_bk), .ref (e_an), .ref (e_mk), .int (e_sz), .ref (e_ki), .ref (e_mi), .ref (e_ta)])) := (hq29.2 (t) _ h_t rfl).trans (fx24)
          refine hp_get (v := .ref (e_en)) hx hb hts hown hZ fx42 fl_X1_30 rfl dX1_putEnding_95 ?_
          refine lv_aload_n hx hb dX1_putEnding_98 rfl (lv_at hl 1 rfl) ?_
          refine hp_get (v := .ref (e_bk)) hx hb hts hown hZ fx42 fl_X1_50 rfl dX1_putEnding_99 ?_
          obtain ⟨u44, u45, u46, u47, z48, z49, z50, eV43, hu51, hu52, hu53, hu54, ⟨h55, h56⟩, ⟨h57, h58⟩, h59, h60⟩ := hq_o6 hP.1 h_e_bk
          refine hp_get (v := .ref (u47)) hx hb hts hown hZ eV43 fl_X1_124 rfl dX1_putEnding_102 ?_
          refine lv_iload_n hx hb dX1_putEnding_105 rfl (lv_at hl 0 rfl) ?_
          obtain ⟨hN63, g62, eV61, hf64, _⟩ := hq_o4 hP.1 hu54
          obtain ⟨u65, hx66, hu67⟩ := hf64 (k : Int32).toNatClampNeg (hq_ix (by omega) (by omega))
          have hu67 : G u65 = some (5, b, 0, 0) := hu67
          refine hp_aald (v := .ref (u65)) hx hb hZ 6 eV61 rfl (hq_in (by omega) (by omega)) (by rw [hx66]; rfl) dX1_putEnding_106 ?_
          obtain ⟨z69, z70, z71, z72, z73, z74, z75, z76, u77, u78, eV68, hu79, hu80, h81, h82⟩ := hq_o5 hP.1 hu67
          refine hp_get (v := .ref (u77)) hx hb hts hown hZ eV68 fl_X1_128 rfl dX1_putEnding_107 ?_
          obtain ⟨u90, z91, eV89, hu92, h93, h94, h95⟩ := hq_o0 hP.1 h_e_en
          refine hp_calli (hp_runV (As := [.ref (u77)]) (rest := []) hx hb hml hown hts (t_X9_addAll l D cs B G (fun g => g.1 == 5) V25 n hP.1 _ _ (e_en) h_e_en (u77) hu79 rfl rfl) hZ eV89 cv_X1_133 rfl rfl ⟨Nat.le_of_ble_eq_true rfl, Nat.le_of_ble_eq_true rfl⟩ rfl hl.1 rfl (Nat.le_of_ble_eq_true rfl) dX1_putEnding_110 ⟨(Nat.le_of_ble_eq_true rfl), (Nat.le_of_ble_eq_true rfl)⟩) hZ (fun r86 V83 n84 _ _ hw85 hZ => ?_)
          obtain ⟨rfl, hq87, hr88⟩ := hw85
          have hP := hP.trans hq87 (by intro g h; simp_all)
          have b96 := hq_rng r86
          refine lv_if_eq (tgt := 120) hx hb dX1_putEnding_113 (by decide) (fun c97 => ?_) (fun c97 => ?_)
          · have c97 : (r86).toInt = (0 : Int) := hq_eqi.mp c97
            refine lv_iconst (v := 0) hx hb dX1_putEnding_120 (by decide) ?_
            have fx98 : V83 (t) = some (.inr (1, [.ref (e_be), .ref (e_tr), .int (e_fd), .ref (e_st), .ref (e_en), .ref (e_wo), .ref (e_bk), .ref (e_an), .ref (e_mk), .int (e_sz), .ref (e_ki), .ref (e_mi), .ref (e_ta)])) := (hq87.2 (t) _ h_t rfl).trans (fx42)
            exact hp_zret hx hb hr rfl hlocks hZ ⟨rfl, hP, fx98, (by decide)⟩ dX1_putEnding_121
          · have c97 : ¬ (r86).toInt = (0 : Int) := fun h9 => c97 (hq_eqi.mpr h9)
            refine lv_iconst (v := 1) hx hb dX1_putEnding_116 (by decide) ?_
            refine lv_goto (tgt := 121) hx hb dX1_putEnding_117 (by decide) ?_
            have fx99 : V83 (t) = some (.inr (1, [.ref (e_be), .ref (e_tr), .int (e_fd), .ref (e_st), .ref (e_en), .ref (e_wo), .ref (e_bk), .ref (e_an), .ref (e_mk), .int (e_sz), .ref (e_ki), .ref (e_mi), .ref (e_ta)])) := (hq87.2 (t) _ h_t rfl).trans (fx42)
            exact hp_zret hx hb hr rfl hlocks hZ ⟨rfl, hP, fx99, (by decide)⟩ dX1_putEnding_121
    · have c2 : ¬ (k).toInt = (60 : Int) := fun h9 => c2 (hq_eqi.mpr h9)
      refine lv_iload_n hx hb dX1_putEnding_24 rfl (lv_at hl 2 rfl) ?_
      refine lv_bipush (v := -2) hx hb dX1_putEnding_25 (by decide) ?_
      refine lv_icmp_eq (tgt := 48) hx hb dX1_putEnding_27 (by decide) (fun c100 => ?_) (fun c100 => ?_)
      · have c100 : (k).toInt = (-2 : Int) := hq_eqi.mp c100
        refine lv_aload_n hx hb dX1_putEnding_48 rfl (lv_at hl 1 rfl) ?_
        refine hp_get (v := .ref (e_tr)) hx hb hts hown hZ ho_t fl_X1_18 rfl dX1_putEnding_49 ?_
        refine lv_iload_n hx hb dX1_putEnding_52 rfl (lv_at hl 2 rfl) ?_
        obtain ⟨z102, z103, z104, z105, z106, z107, z108, eV101, h109, h110⟩ := hq_o13 hP.1 h_e_tr
        refine hp_put hx hb hts hown hZ eV101 fp_X1_111 rfl rfl (Nat.le_of_ble_eq_true rfl) dX1_putEnding_53 (fun V111 _ _ e112 o113 hZ => ?_)
        have e112 : V111 (e_tr) = some (.inr (10, [.int (z102), .int (z103), .int (z104), .int (z105), .int (k), .int (z107), .int (z108)])) := e112
        have hP := hP.put h_e_tr e112 o113 (hq_c13 (show -1 ≤ (z103).toInt ∧ (z103).toInt ≤ 59 by omega) (show -1 ≤ (z104).toInt ∧ (z104).toInt ≤ 59 by omega)) rfl
        refine lv_aload_n hx hb dX1_putEnding_56 rfl (lv_at hl 1 rfl) ?_
        have fx114 : V111 (t) = some (.inr (1, [.ref (e_be), .ref (e_tr), .int (e_fd), .ref (e_st), .ref (e_en), .ref (e_wo), .ref (e_bk), .ref (e_an), .ref (e_mk), .int (e_sz), .ref (e_ki), .ref (e_mi), .ref (e_ta)])) := (o113 (t) (hq_tne h_t h_e_tr (by simp))).trans (ho_t)
        refine hp_get (v := .ref (e_tr)) hx hb hts hown hZ fx114 fl_X1_18 rfl dX1_putEnding_57 ?_
        refine lv_iconst (v := -1) hx hb dX1_putEnding_60 (by decide) ?_
        refine hp_put hx hb hts hown hZ e112 fp_X1_114 rfl rfl (Nat.le_of_ble_eq_true rfl) dX1_putEnding_61 (fun V115 _ _ e116 o117 hZ => ?_)
        have e116 : V115 (e_tr) = some (.inr (10, [.int (z102), .int (z103), .int (z104), .int (z105), .int (k), .int (-1), .int (z108)])) := e116
        have hP := hP.put h_e_tr e116 o117 (hq_c13 (show -1 ≤ (z103).toInt ∧ (z103).toInt ≤ 59 by omega) (show -1 ≤ (z104).toInt ∧ (z104).toInt ≤ 59 by omega)) rfl
        refine lv_aload_n hx hb dX1_putEnding_64 rfl (lv_at hl 1 rfl) ?_
        have fx118 : V115 (t) = some (.inr (1, [.ref (e_be), .ref (e_tr), .int (e_fd), .ref (e_st), .ref (e_en), .ref (e_wo), .ref (e_bk), .ref (e_an), .ref (e_mk), .int (e_sz), .ref (e_ki), .ref (e_mi), .ref (e_ta)])) := (o117 (t) (hq_tne h_t h_e_tr (by simp))).trans (fx114)
        refine hp_get (v := .ref (e_tr)) hx hb hts hown hZ fx118 fl_X1_18 rfl dX1_putEnding_65 ?_
        refine lv_iconst (v := -1) hx hb dX1_putEnding_68 (by decide) ?_
        refine hp_put hx hb hts hown hZ e116 fp_X1_117 rfl rfl (Nat.le_of_ble_eq_true rfl) dX1_putEnding_69 (fun V119 _ _ e120 o121 hZ => ?_)
        have e120 : V119 (e_tr) = some (.inr (10, [.int (z102), .int (z103), .int (z104), .int (z105), .int (k), .int (-1), .int (-1)])) := e120
        have hP := hP.put h_e_tr e120 o121 (hq_c13 (show -1 ≤ (z103).toInt ∧ (z103).toInt ≤ 59 by omega) (show -1 ≤ (z104).toInt ∧ (z104).toInt ≤ 59 by omega)) rfl
        refine lv_aload_n hx hb dX1_putEnding_72 rfl (lv_at hl 1 rfl) ?_
        have fx122 : V119 (t) = some (.inr (1, [.ref (e_be), .ref (e_tr), .int (e_fd), .ref (e_st), .ref (e_en), .ref (e_wo), .ref (e_bk), .ref (e_an), .ref (e_mk), .int (e_sz), .ref (e_ki), .ref (e_mi), .ref (e_ta)])) := (o121 (t) (hq_tne h_t h_e_tr (by simp))).trans (fx118)
        refine hp_get (v := .ref (e_en)) hx hb hts hown hZ fx122 fl_X1_30 rfl dX1_putEnding_73 ?_
        refine lv_aload_n hx hb dX1_putEnding_76 rfl (lv_at hl 1 rfl) ?_
        refine hp_get (v := .ref (e_st)) hx hb hts hown hZ fx122 fl_X1_26 rfl dX1_putEnding_77 ?_
        obtain ⟨u130, z131, eV129, hu132, h133, h134, h135⟩ := hq_o0 hP.1 h_e_en
        refine hp_callv (hp_runV (As := [.ref (e_st)]) (rest := []) hx hb hml hown hts (t_X9_set l D cs B G (fun g => g.1 == 5) V119 n hP.1 _ _ (e_en) h_e_en (e_st) h_e_st rfl rfl) hZ eV129 cv_X1_120 rfl rfl ⟨Nat.le_of_ble_eq_true rfl, Nat.le_of_ble_eq_true rfl⟩ rfl hl.1 rfl (Nat.le_of_ble_eq_true rfl) dX1_putEnding_80 ⟨(Nat.le_of_ble_eq_true rfl), (Nat.le_of_ble_eq_true rfl)⟩) hZ (fun V123 n124 _ _ hw125 hZ => ?_)
        obtain ⟨rfl, hq127⟩ := hw125
        have hP := hP.trans hq127 (by intro g h; simp_all)
        refine lv_iload_n hx hb dX1_putEnding_83 rfl (lv_at hl 2 rfl) ?_
        refine lv_bipush (v := 60) hx hb dX1_putEnding_84 (by decide) ?_
        refine lv_icmp_eq (tgt := 116) hx hb dX1_putEnding_86 (by decide) (fun c136 => ?_) (fun c136 => ?_)
        · have c136 : (k).toInt = (60 : Int) := hq_eqi.mp c136
          refine lv_iconst (v := 1) hx hb dX1_putEnding_116 (by decide) ?_
          refine lv_goto (tgt := 121) hx hb dX1_putEnding_117 (by decide) ?_
          have fx137 : V123 (t) = some (.inr (1, [.ref (e_be), .ref (e_tr), .int (e_fd), .ref (e_st), .ref (e_en), .ref (e_wo), .ref (e_bk), .ref (e_an), .ref (e_mk), .int (e_sz), .ref (e_ki), .ref (e_mi), .ref (e_ta)])) := (hq127.2 (t) _ h_t rfl).trans (fx122)
          exact hp_zret hx hb hr rfl hlocks hZ ⟨rfl, hP, fx137, (by decide)⟩ dX1_putEnding_121
        · have c136 : ¬ (k).toInt = (60 : Int) := fun h9 => c136 (hq_eqi.mpr h9)
          refine lv_iload_n hx hb dX1_putEnding_89 rfl (lv_at hl 0 rfl) ?_
          refine lv_iconst (v := -1) hx hb dX1_putEnding_90 (by decide) ?_
          refine lv_icmp_eq (tgt := 120) hx hb dX1_putEnding_91 (by decide) (fun c138 => ?_) (fun c138 => ?_)
          · have c138 : (k).toInt = (-1 : Int) := hq_eqi.mp c138
            refine lv_iconst (v := 0) hx hb dX1_putEnding_120 (by decide) ?_
            have fx139 : V123 (t) = some (.inr (1, [.ref (e_be), .ref (e_tr), .int (e_fd), .ref (e_st), .ref (e_en), .ref (e_wo), .ref (e_bk), .ref (e_an), .ref (e_mk), .int (e_sz), .ref (e_ki), .ref (e_mi), .ref (e_ta)])) := (hq127.2 (t) _ h_t rfl).trans (fx122)
            exact hp_zret hx hb hr rfl hlocks hZ ⟨rfl, hP, fx139, (by decide)⟩ dX1_putEnding_121
          · have c138 : ¬ (k).toInt = (-1 : Int) := fun h9 => c138 (hq_eqi.mpr h9)
            refine lv_aload_n hx hb dX1_putEnding_94 rfl (lv_at hl 1 rfl) ?_
            have fx140 : V123 (t) = some (.inr (1, [.ref (e_be), .ref (e_tr), .int (e_fd), .ref (e_st), .ref (e_en), .ref (e_wo), .ref (e_bk), .ref (e_an), .ref (e_mk), .int (e_sz), .ref (e_ki), .ref (e_mi), .ref (e_ta)])) := (hq127.2 (t) _ h_t rfl).trans (fx122)
            refine hp_get (v := .ref (e_en)) hx hb hts hown hZ fx140 fl_X1_30 rfl dX1_putEnding_95 ?_
            refine lv_aload_n hx hb dX1_putEnding_98 rfl (lv_at hl 1 rfl) ?_
            refine hp_get (v := .ref (e_bk)) hx hb hts hown hZ fx140 fl_X1_50 rfl dX1_putEnding_99 ?_
            obtain ⟨u142, u143, u144, u145, z146, z147, z148, eV141, hu149, hu150, hu151, hu152, ⟨h153, h154⟩, ⟨h155, h156⟩, h157, h158⟩ := hq_o6 hP.1 h_e_bk
            refine hp_get (v := .ref (u145)) hx hb hts hown hZ eV141 fl_X1_124 rfl dX1_putEnding_102 ?_
            refine lv_iload_n hx hb dX1_putEnding_105 rfl (lv_at hl 0 rfl) ?_
            obtain ⟨hN161, g160, eV159, hf162, _⟩ := hq_o4 hP.1 hu152
            obtain ⟨u163, hx164, hu165⟩ := hf162 (k : Int32).toNatClampNeg (hq_ix (by omega) (by omega))
            have hu165 : G u163 = some (5, b, 0, 0) := hu165
            refine hp_aald (v := .ref (u163)) hx hb hZ 6 eV159 rfl (hq_in (by omega) (by omega)) (by rw [hx164]; rfl) dX1_putEnding_106 ?_
            obtain ⟨z167, z168, z169, z170, z171, z172, z173, z174, u175, u176, eV166, hu177, hu178, h179, h180⟩ := hq_o5 hP.1 hu165
            refine hp_get (v := .ref (u175)) hx hb hts hown hZ eV166 fl_X1_128 rfl dX1_putEnding_107 ?_
            obtain ⟨u188, z189, eV187, hu190, h191, h192, h193⟩ := hq_o0 hP.1 h_e_en
            refine hp_calli (hp_runV (As := [.ref (u175)]) (rest := []) hx hb hml hown hts (t_X9_addAll l D cs B G (fun g => g.1 == 5) V123 n hP.1 _ _ (e_en) h_e_en (u175) hu177 rfl rfl) hZ eV187 cv_X1_133 rfl rfl ⟨Nat.le_of_ble_eq_true rfl, Nat.le_of_ble_eq_true rfl⟩ rfl hl.1 rfl (Nat.le_of_ble_eq_true rfl) dX1_putEnding_110 ⟨(Nat.le_of_ble_eq_true rfl), (Nat.le_of_ble_eq_true rfl)⟩) hZ (fun r184 V181 n182 _ _ hw183 hZ => ?_)
            obtain ⟨rfl, hq185, hr186⟩ := hw183
            have hP := hP.trans hq185 (by intro g h; simp_all)
            have b194 := hq_rng r184
            refine lv_if_eq (tgt := 120) hx hb dX1_putEnding_113 (by decide) (fun c195 => ?_) (fun c195 => ?_)
            · have c195 : (r184).toInt = (0 : Int) := hq_eqi.mp c195
              refine lv_iconst (v := 0) hx hb dX1_putEnding_120 (by decide) ?_
              have fx196 : V181 (t) = some (.inr (1, [.ref (e_be), .ref (e_tr), .int (e_fd), .ref (e_st), .ref (e_en), .ref (e_wo), .ref (e_bk), .ref (e_an), .ref (e_mk), .int (e_sz), .ref (e_ki), .ref (e_mi), .ref (e_ta)])) := (hq185.2 (t) _ h_t rfl).trans (fx140)
              exact hp_zret hx hb hr rfl hlocks hZ ⟨rfl, hP, fx196, (by decide)⟩ dX1_putEnding_121
            · have c195 : ¬ (r184).toInt = (0 : Int) := fun h9 => c195 (hq_eqi.mpr h9)
              refine lv_iconst (v := 1) hx hb dX1_putEnding_116 (by decide) ?_
              refine lv_goto (tgt := 121) hx hb dX1_putEnding_117 (by decide) ?_
              have fx197 : V181 (t) = some (.inr (1, [.ref (e_be), .ref (e_tr), .int (e_fd), .ref (e_st), .ref (e_en), .ref (e_wo), .ref (e_bk), .ref (e_an), .ref (e_mk), .int (e_sz), .ref (e_ki), .ref (e_mi), .ref (e_ta)])) := (hq185.2 (t) _ h_t rfl).trans (fx140)
              exact hp_zret hx hb hr rfl hlocks hZ ⟨rfl, hP, fx197, (by decide)⟩ dX1_putEnding_121
      · have c100 : ¬ (k).toInt = (-2 : Int) := fun h9 => c100 (hq_eqi.mpr h9)
        refine lv_aload_n hx hb dX1_putEnding_30 rfl (lv_at hl 1 rfl) ?_
        refine lv_iload_n hx hb dX1_putEnding_31 rfl (lv_at hl 2 rfl) ?_
        refine lv_iconst (v := 1) hx hb dX1_putEnding_32 (by decide) ?_
        refine lv_aload_n hx hb dX1_putEnding_33 rfl (lv_at hl 1 rfl) ?_
        refine hp_get (v := .ref (e_tr)) hx hb hts hown hZ ho_t fl_X1_18 rfl dX1_putEnding_34 ?_
        obtain ⟨z199, z200, z201, z202, z203, z204, z205, eV198, h206, h207⟩ := hq_o13 hP.1 h_e_tr
        refine hp_get (v := .int (z201)) hx hb hts hown hZ eV198 fl_X1_73 rfl dX1_putEnding_37 ?_
        have hl215 : (1 : Int32).toInt = 1 := by decide
        refine hp_calli (hp_runV (As := [.int (k), .int (1), .int (z201)]) (rest := []) hx hb hml hown hts (t_X1_isOther l D cs B G  V n hP.1 _ (t) h_t (k) (1) (z201) ho_t h_e_be h_e_tr h_e_st h_e_en h_e_wo h_e_bk h_e_an h_e_mk h_e_ki h_e_mi h_e_ta (by omega) (by omega) ) hZ ho_t cv_X1_107 rfl rfl ⟨Nat.le_of_ble_eq_true rfl, Nat.le_of_ble_eq_true rfl⟩ rfl hl.1 rfl (Nat.le_of_ble_eq_true rfl) dX1_putEnding_40 ⟨(Nat.le_of_ble_eq_true rfl), (Nat.le_of_ble_eq_true rfl)⟩) hZ (fun r211 V208 n209 _ _ hw210 hZ => ?_)
        obtain ⟨rfl, hq212, ho214, hr213⟩ := hw210
        have hP := hP.trans hq212 (fun _ _ => rfl)
        have b216 := hq_rng r211
        refine lv_if_ne (tgt := 48) hx hb dX1_putEnding_43 (by decide) (fun c217 => ?_) (fun c217 => ?_)
        · have c217 : ¬ (r211).toInt = (0 : Int) := fun h9 => c217 (hq_eqi.mpr h9)
          refine lv_aload_n hx hb dX1_putEnding_48 rfl (lv_at hl 1 rfl) ?_
          refine hp_get (v := .ref (e_tr)) hx hb hts hown hZ ho214 fl_X1_18 rfl dX1_putEnding_49 ?_
          refine lv_iload_n hx hb dX1_putEnding_52 rfl (lv_at hl 2 rfl) ?_
          have fx218 : V208 (e_tr) = some (.inr (10, [.int (z199), .int (z200), .int (z201), .int (z202), .int (z203), .int (z204), .int (z205)])) := (hq212.2 (e_tr) _ h_e_tr rfl).trans (eV198)
          refine hp_put hx hb hts hown hZ fx218 fp_X1_111 rfl rfl (Nat.le_of_ble_eq_true rfl) dX1_putEnding_53 (fun V219 _ _ e220 o221 hZ => ?_)
          have e220 : V219 (e_tr) = some (.inr (10, [.int (z199), .int (z200), .int (z201), .int (z202), .int (k), .int (z204), .int (z205)])) := e220
          have hP := hP.put h_e_tr e220 o221 (hq_c13 (show -1 ≤ (z200).toInt ∧ (z200).toInt ≤ 59 by omega) (show -1 ≤ (z201).toInt ∧ (z201).toInt ≤ 59 by omega)) rfl
          refine lv_aload_n hx hb dX1_putEnding_56 rfl (lv_at hl 1 rfl) ?_
          have fx222 : V219 (t) = some (.inr (1, [.ref (e_be), .ref (e_tr), .int (e_fd), .ref (e_st), .ref (e_en), .ref (e_wo), .ref (e_bk), .ref (e_an), .ref (e_mk), .int (e_sz), .ref (e_ki), .ref (e_mi), .ref (e_ta)])) := (o221 (t) (hq_tne h_t h_e_tr (by simp))).trans (ho214)
          refine hp_get (v := .ref (e_tr)) hx hb hts hown hZ fx222 fl_X1_18 rfl dX1_putEnding_57 ?_
          refine lv_iconst (v := -1) hx hb dX1_putEnding_60 (by decide) ?_
          refine hp_put hx hb hts hown hZ e220 fp_X1_114 rfl rfl (Nat.le_of_ble_eq_true rfl) dX1_putEnding_61 (fun V223 _ _ e224 o225 hZ => ?_)
          have e224 : V223 (e_tr) = some (.inr (10, [.int (z199), .int (z200), .int (z201), .int (z202), .int (k), .int (-1), .int (z205)])) := e224
          have hP := hP.put h_e_tr e224 o225 (hq_c13 (show -1 ≤ (z200).toInt ∧ (z200).toInt ≤ 59 by omega) (show -1 ≤ (z201).toInt ∧ (z201).toInt ≤ 59 by omega)) rfl
          refine lv_aload_n hx hb dX1_putEnding_64 rfl (lv_at hl 1 rfl) ?_
          have fx226 : V223 (t) = some (.inr (1, [.ref (e_be), .ref (e_tr), .int (e_fd), .ref (e_st), .ref (e_en), .ref (e_wo), .ref (e_bk), .ref (e_an), .ref (e_mk), .int (e_sz), .ref (e_ki), .ref (e_mi), .ref (e_ta)])) := (o225 (t) (hq_tne h_t h_e_tr (by simp))).trans (fx222)
          refine hp_get (v := .ref (e_tr)) hx hb hts hown hZ fx226 fl_X1_18 rfl dX1_putEnding_65 ?_
          refine lv_iconst (v := -1) hx hb dX1_putEnding_68 (by decide) ?_
          refine hp_put hx hb hts hown hZ e224 fp_X1_117 rfl rfl (Nat.le_of_ble_eq_true rfl) dX1_putEnding_69 (fun V227 _ _ e228 o229 hZ => ?_)
          have e228 : V227 (e_tr) = some (.inr (10, [.int (z199), .int (z200), .int (z201), .int (z202), .int (k), .int (-1), .int (-1)])) := e228
          have hP := hP.put h_e_tr e228 o229 (hq_c13 (show -1 ≤ (z200).toInt ∧ (z200).toInt ≤ 59 by omega) (show -1 ≤ (z201).toInt ∧ (z201).toInt ≤ 59 by omega)) rfl
          refine lv_aload_n hx hb dX1_putEnding_72 rfl (lv_at hl 1 rfl) ?_
          have fx230 : V227 (t) = some (.inr (1, [.ref (e_be), .ref (e_tr), .int (e_fd), .ref (e_st), .ref (e_en), .ref (e_wo), .ref (e_bk), .ref (e_an), .ref (e_mk), .int (e_sz), .ref (e_ki), .ref (e_mi), .ref (e_ta)])) := (o229 (t) (hq_tne h_t h_e_tr (by simp))).trans (fx226)
          refine hp_get (v := .ref (e_en)) hx hb hts hown hZ fx230 fl_X1_30 rfl dX1_putEnding_73 ?_
          refine lv_aload_n hx hb dX1_putEnding_76 rfl (lv_at hl 1 rfl) ?_
          refine hp_get (v := .ref (e_st)) hx hb hts hown hZ fx230 fl_X1_26 rfl dX1_putEnding_77 ?_
          obtain ⟨u238, z239, eV237, hu240, h241, h242, h243⟩ := hq_o0 hP.1 h_e_en
          refine hp_callv (hp_runV (As := [.ref (e_st)]) (rest := []) hx hb hml hown hts (t_X9_set l D cs B G (fun g => g.1 == 5) V227 n hP.1 _ _ (e_en) h_e_en (e_st) h_e_st rfl rfl) hZ eV237 cv_X1_120 rfl rfl ⟨Nat.le_of_ble_eq_true rfl, Nat.le_of_ble_eq_true rfl⟩ rfl hl.1 rfl (Nat.le_of_ble_eq_true rfl) dX1_putEnding_80 ⟨(Nat.le_of_ble_eq_true rfl), (Nat.le_of_ble_eq_true rfl)⟩) hZ (fun V231 n232 _ _ hw233 hZ => ?_)
          obtain ⟨rfl, hq235⟩ := hw233
          have hP := hP.trans hq235 (by intro g h; simp_all)
          refine lv_iload_n hx hb dX1_putEnding_83 rfl (lv_at hl 2 rfl) ?_
          refine lv_bipush (v := 60) hx hb dX1_putEnding_84 (by decide) ?_
          refine lv_icmp_eq (tgt := 116) hx hb dX1_putEnding_86 (by decide) (fun c244 => ?_) (fun c244 => ?_)
          · have c244 : (k).toInt = (60 : Int) := hq_eqi.mp c244
            refine lv_iconst (v := 1) hx hb dX1_putEnding_116 (by decide) ?_
            refine lv_goto (tgt := 121) hx hb dX1_putEnding_117 (by decide) ?_
            have fx245 : V231 (t) = some (.inr (1, [.ref (e_be), .ref (e_tr), .int (e_fd), .ref (e_st), .ref (e_en), .ref (e_wo), .ref (e_bk), .ref (e_an), .ref (e_mk), .int (e_sz), .ref (e_ki), .ref (e_mi), .ref (e_ta)])) := (hq235.2 (t) _ h_t rfl).trans (fx230)
            exact hp_zret hx hb hr rfl hlocks hZ ⟨rfl, hP, fx245, (by decide)⟩ dX1_putEnding_121
          · have c244 : ¬ (k).toInt = (60 : Int) := fun h9 => c244 (hq_eqi.mpr h9)
            refine lv_iload_n hx hb dX1_putEnding_89 rfl (lv_at hl 0 rfl) ?_
            refine lv_iconst (v := -1) hx hb dX1_putEnding_90 (by decide) ?_
            refine lv_icmp_eq (tgt := 120) hx hb dX1_putEnding_91 (by decide) (fun c246 => ?_) (fun c246 => ?_)
            · have c246 : (k).toInt = (-1 : Int) := hq_eqi.mp c246
              refine lv_iconst (v := 0) hx hb dX1_putEnding_120 (by decide) ?_
              have fx247 : V231 (t) = some (.inr (1, [.ref (e_be), .ref (e_tr), .int (e_fd), .ref (e_st), .ref (e_en), .ref (e_wo), .ref (e_bk), .ref (e_an), .ref (e_mk), .int (e_sz), .ref (e_ki), .ref (e_mi), .ref (e_ta)])) := (hq235.2 (t) _ h_t rfl).trans (fx230)
              exact hp_zret hx hb hr rfl hlocks hZ ⟨rfl, hP, fx247, (by decide)⟩ dX1_putEnding_121
            · have c246 : ¬ (k).toInt = (-1 : Int) := fun h9 => c246 (hq_eqi.mpr h9)
              refine lv_aload_n hx hb dX1_putEnding_94 rfl (lv_at hl 1 rfl) ?_
              have fx248 : V231 (t) = some (.inr (1, [.ref (e_be), .ref (e_tr), .int (e_fd), .ref (e_st), .ref (e_en), .ref (e_wo), .ref (e_bk), .ref (e_an), .ref (e_mk), .int (e_sz), .ref (e_ki), .ref (e_mi), .ref (e_ta)])) := (hq235.2 (t) _ h_t rfl).trans (fx230)
              refine hp_get (v := .ref (e_en)) hx hb hts hown hZ fx248 fl_X1_30 rfl dX1_putEnding_95 ?_
              refine lv_aload_n hx hb dX1_putEnding_98 rfl (lv_at hl 1 rfl) ?_
              refine hp_get (v := .ref (e_bk)) hx hb hts hown hZ fx248 fl_X1_50 rfl dX1_putEnding_99 ?_
              obtain ⟨u250, u251, u252, u253, z254, z255, z256, eV249, hu257, hu258, hu259, hu260, ⟨h261, h262⟩, ⟨h263, h264⟩, h265, h266⟩ := hq_o6 hP.1 h_e_bk
              refine hp_get (v := .ref (u253)) hx hb hts hown hZ eV249 fl_X1_124 rfl dX1_putEnding_102 ?_
              refine lv_iload_n hx hb dX1_putEnding_105 rfl (lv_at hl 0 rfl) ?_
              obtain ⟨hN269, g268, eV267, hf270, _⟩ := hq_o4 hP.1 hu260
              obtain ⟨u271, hx272, hu273⟩ := hf270 (k : Int32).toNatClampNeg (hq_ix (by omega) (by omega))
              have hu273 : G u271 = some (5, b, 0, 0) := hu273
              refine hp_aald (v := .ref (u271)) hx hb hZ 6 eV267 rfl (hq_in (by omega) (by omega)) (by rw [hx272]; rfl) dX1_putEnding_106 ?_
              obtain ⟨z275, z276, z277, z278, z279, z280, z281, z282, u283, u284, eV274, hu285, hu286, h287, h288⟩ := hq_o5 hP.1 hu273
              refine hp_get (v := .ref (u283)) hx hb hts hown hZ eV274 fl_X1_128 rfl dX1_putEnding_107 ?_
              obtain ⟨u296, z297, eV295, hu298, h299, h300, h301⟩ := hq_o0 hP.1 h_e_en
              refine hp_calli (hp_runV (As := [.ref (u283)]) (rest := []) hx hb hml hown hts (t_X9_addAll l D cs B G (fun g => g.1 == 5) V231 n hP.1 _ _ (e_en) h_e_en (u283) hu285 rfl rfl) hZ eV295 cv_X1_133 rfl rfl ⟨Nat.le_of_ble_eq_true rfl, Nat.le_of_ble_eq_true rfl⟩ rfl hl.1 rfl (Nat.le_of_ble_eq_true rfl) dX1_putEnding_110 ⟨(Nat.le_of_ble_eq_true rfl), (Nat.le_of_ble_eq_true rfl)⟩) hZ (fun r292 V289 n290 _ _ hw291 hZ => ?_)
              obtain ⟨rfl, hq293, hr294⟩ := hw291
              have hP := hP.trans hq293 (by intro g h; simp_all)
              have b302 := hq_rng r292
              refine lv_if_eq (tgt := 120) hx hb dX1_putEnding_113 (by decide) (fun c303 => ?_) (fun c303 => ?_)
              · have c303 : (r292).toInt = (0 : Int) := hq_eqi.mp c303
                refine lv_iconst (v := 0) hx hb dX1_putEnding_120 (by decide) ?_
                have fx304 : V289 (t) = some (.inr (1, [.ref (e_be), .ref (e_tr), .int (e_fd), .ref (e_st), .ref (e_en), .ref (e_wo), .ref (e_bk), .ref (e_an), .ref (e_mk), .int (e_sz), .ref (e_ki), .ref (e_mi), .ref (e_ta)])) := (hq293.2 (t) _ h_t rfl).trans (fx248)
                exact hp_zret hx hb hr rfl hlocks hZ ⟨rfl, hP, fx304, (by decide)⟩ dX1_putEnding_121
              · have c303 : ¬ (r292).toInt = (0 : Int) := fun h9 => c303 (hq_eqi.mpr h9)
                refine lv_iconst (v := 1) hx hb dX1_putEnding_116 (by decide) ?_
                refine lv_goto (tgt := 121) hx hb dX1_putEnding_117 (by decide) ?_
                have fx305 : V289 (t) = some (.inr (1, [.ref (e_be), .ref (e_tr), .int (e_fd), .ref (e_st), .ref (e_en), .ref (e_wo), .ref (e_bk), .ref (e_an), .ref (e_mk), .int (e_sz), .ref (e_ki), .ref (e_mi), .ref (e_ta)])) := (hq293.2 (t) _ h_t rfl).trans (fx248)
                exact hp_zret hx hb hr rfl hlocks hZ ⟨rfl, hP, fx305, (by decide)⟩ dX1_putEnding_121
        · have c217 : (r211).toInt = (0 : Int) := hq_eqi.mp c217
          refine lv_iconst (v := 0) hx hb dX1_putEnding_46 (by decide) ?_
          exact hp_zret hx hb hr rfl hlocks hZ ⟨rfl, hP, ho214, (by decide)⟩ dX1_putEnding_47
  · have c1 : (k).toInt = (-2 : Int) := hq_eqi.mp c1
    refine lv_aload_n hx hb dX1_putEnding_6 rfl (lv_at hl 0 rfl) ?_
    refine hp_get (v := .ref (e_tr)) hx hb hts hown hZ ho_t fl_X1_18 rfl dX1_putEnding_7 ?_
    obtain ⟨z307, z308, z309, z310, z311, z312, z313, eV306, h314, h315⟩ := hq_o13 hP.1 h_e_tr
    refine hp_get (v := .int (z309)) hx hb hts hown hZ eV306 fl_X1_73 rfl dX1_putEnding_10 ?_
    refine lv_goto (tgt := 17) hx hb dX1_putEnding_13 (by decide) ?_
    refine lv_istore_n (lv' := [(2, .int (z309)), (0, .ref (t)), (1, .int (k))]) hx hb dX1_putEnding_17 rfl hl (by decide) rfl (fun ls hl => ?_)
    refine lv_iload_n hx hb dX1_putEnding_18 rfl (lv_at hl 2 rfl) ?_
    refine lv_bipush (v := 60) hx hb dX1_putEnding_19 (by decide) ?_
    refine lv_icmp_eq (tgt := 48) hx hb dX1_putEnding_21 (by decide) (fun c316 => ?_) (fun c316 => ?_)
    · have c316 : (k).toInt = (60 : Int) := hq_eqi.mp c316
      refine lv_aload_n hx hb dX1_putEnding_48 rfl (lv_at hl 1 rfl) ?_
      refine hp_get (v := .ref (e_tr)) hx hb hts hown hZ ho_t fl_X1_18 rfl dX1_putEnding_49 ?_
      refine lv_iload_n hx hb dX1_putEnding_52 rfl (lv_at hl 2 rfl) ?_
      refine hp_put hx hb hts hown hZ eV306 fp_X1_111 rfl rfl (Nat.le_of_ble_eq_true rfl) dX1_putEnding_53 (fun V317 _ _ e318 o319 hZ => ?_)
      have e318 : V317 (e_tr) = some (.inr (10, [.int (z307), .int (z308), .int (z309), .int (z310), .int (k), .int (z312), .int (z313)])) := e318
      have hP := hP.put h_e_tr e318 o319 (hq_c13 (show -1 ≤ (z308).toInt ∧ (z308).toInt ≤ 59 by omega) (show -1 ≤ (z309).toInt ∧ (z309).toInt ≤ 59 by omega)) rfl
      refine lv_aload_n hx hb dX1_putEnding_56 rfl (lv_at hl 1 rfl) ?_
      have fx320 : V317 (t) = some (.inr (1, [.ref (e_be), .ref (e_tr), .int (e_fd), .ref (e_st), .ref (e_en), .ref (e_wo), .ref (e_bk), .ref (e_an), .ref (e_mk), .int (e_sz), .ref (e_ki), .ref (e_mi), .ref (e_ta)])) := (o319 (t) (hq_tne h_t h_e_tr (by simp))).trans (ho_t)
      refine hp_get (v := .ref (e_tr)) hx hb hts hown hZ fx320 fl_X1_18 rfl dX1_putEnding_57 ?_
      refine lv_iconst (v := -1) hx hb dX1_putEnding_60 (by decide) ?_
      refine hp_put hx hb hts hown hZ e318 fp_X1_114 rfl rfl (Nat.le_of_ble_eq_true rfl) dX1_putEnding_61 (fun V321 _ _ e322 o323 hZ => ?_)
      have e322 : V321 (e_tr) = some (.inr (10, [.int (z307), .int (z308), .int (z309), .int (z310), .int (k), .int (-1), .int (z313)])) := e322
      have hP := hP.put h_e_tr e322 o323 (hq_c13 (show -1 ≤ (z308).toInt ∧ (z308).toInt ≤ 59 by omega) (show -1 ≤ (z309).toInt ∧ (z309).toInt ≤ 59 by omega)) rfl
      refine lv_aload_n hx hb dX1_putEnding_64 rfl (lv_at hl 1 rfl) ?_
      have fx324 : V321 (t) = some (.inr (1, [.ref (e_be), .ref (e_tr), .int (e_fd), .ref (e_st), .ref (e_en), .ref (e_wo), .ref (e_bk), .ref (e_an), .ref (e_mk), .int (e_sz), .ref (e_ki), .ref (e_mi), .ref (e_ta)])) := (o323 (t) (hq_tne h_t h_e_tr (by simp))).trans (fx320)
      refine hp_get (v := .ref (e_tr)) hx hb hts hown hZ fx324 fl_X1_18 rfl dX1_putEnding_65 ?_
      refine lv_iconst (v := -1) hx hb dX1_putEnding_68 (by decide) ?_
      refine hp_put hx hb hts hown hZ e322 fp_X1_117 rfl rfl (Nat.le_of_ble_eq_true rfl) dX1_putEnding_69 (fun V325 _ _ e326 o327 hZ => ?_)
      have e326 : V325 (e_tr) = some (.inr (10, [.int (z307), .int (z308), .int (z309), .int (z310), .int (k), .int (-1), .int (-1)])) := e326
      have hP := hP.put h_e_tr e326 o327 (hq_c13 (show -1 ≤ (z308).toInt ∧ (z308).toInt ≤ 59 by omega) (show -1 ≤ (z309).toInt ∧ (z309).toInt ≤ 59 by omega)) rfl
      refine lv_aload_n hx hb dX1_putEnding_72 rfl (lv_at hl 1 rfl) ?_
      have fx328 : V325 (t) = some (.inr (1, [.ref (e_be), .ref (e_tr), .int (e_fd), .ref (e_st), .ref (e_en), .ref (e_wo), .ref (e_bk), .ref (e_an), .ref (e_mk), .int (e_sz), .ref (e_ki), .ref (e_mi), .ref (e_ta)])) := (o327 (t) (hq_tne h_t h_e_tr (by simp))).trans (fx324)
      refine hp_get (v := .ref (e_en)) hx hb hts hown hZ fx328 fl_X1_30 rfl dX1_putEnding_73 ?_
      refine lv_aload_n hx hb dX1_putEnding_76 rfl (lv_at hl 1 rfl) ?_
      refine hp_get (v := .ref (e_st)) hx hb hts hown hZ fx328 fl_X1_26 rfl dX1_putEnding_77 ?_
      obtain ⟨u336, z337, eV335, hu338, h339, h340, h341⟩ := hq_o0 hP.1 h_e_en
      refine hp_callv (hp_runV (As := [.ref (e_st)]) (rest := []) hx hb hml hown hts (t_X9_set l D cs B G (fun g => g.1 == 5) V325 n hP.1 _ _ (e_en) h_e_en (e_st) h_e_st rfl rfl) hZ eV335 cv_X1_120 rfl rfl ⟨Nat.le_of_ble_eq_true rfl, Nat.le_of_ble_eq_true rfl⟩ rfl hl.1 rfl (Nat.le_of_ble_eq_true rfl) dX1_putEnding_80 ⟨(Nat.le_of_ble_eq_true rfl), (Nat.le_of_ble_eq_true rfl)⟩) hZ (fun V329 n330 _ _ hw331 hZ => ?_)
      obtain ⟨rfl, hq333⟩ := hw331
      have hP := hP.trans hq333 (by intro g h; simp_all)
      refine lv_iload_n hx hb dX1_putEnding_83 rfl (lv_at hl 2 rfl) ?_
      refine lv_bipush (v := 60) hx hb dX1_putEnding_84 (by decide) ?_
      refine lv_icmp_eq (tgt := 116) hx hb dX1_putEnding_86 (by decide) (fun c342 => ?_) (fun c342 => ?_)
      · have c342 : (k).toInt = (60 : Int) := hq_eqi.mp c342
        refine lv_iconst (v := 1) hx hb dX1_putEnding_116 (by decide) ?_
        refine lv_goto (tgt := 121) hx hb dX1_putEnding_117 (by decide) ?_
        have fx343 : V329 (t) = some (.inr (1, [.ref (e_be), .ref (e_tr), .int (e_fd), .ref (e_st), .ref (e_en), .ref (e_wo), .ref (e_bk), .ref (e_an), .ref (e_mk), .int (e_sz), .ref (e_ki), .ref (e_mi), .ref (e_ta)])) := (hq333.2 (t) _ h_t rfl).trans (fx328)
        exact hp_zret hx hb hr rfl hlocks hZ ⟨rfl, hP, fx343, (by decide)⟩ dX1_putEnding_121
      · have c342 : ¬ (k).toInt = (60 : Int) := fun h9 => c342 (hq_eqi.mpr h9)
        refine lv_iload_n hx hb dX1_putEnding_89 rfl (lv_at hl 0 rfl) ?_
        refine lv_iconst (v := -1) hx hb dX1_putEnding_90 (by decide) ?_
        refine lv_icmp_eq (tgt := 120) hx hb dX1_putEnding_91 (by decide) (fun c344 => ?_) (fun c344 => ?_)
        · have c344 : (z309).toInt = (-1 : Int) := hq_eqi.mp c344
          refine lv_iconst (v := 0) hx hb dX1_putEnding_120 (by decide) ?_
          have fx345 : V329 (t) = some (.inr (1, [.ref (e_be), .ref (e_tr), .int (e_fd), .ref (e_st), .ref (e_en), .ref (e_wo), .ref (e_bk), .ref (e_an), .ref (e_mk), .int (e_sz), .ref (e_ki), .ref (e_mi), .ref (e_ta)])) := (hq333.2 (t) _ h_t rfl).trans (fx328)
          exact hp_zret hx hb hr rfl hlocks hZ ⟨rfl, hP, fx345, (by decide)⟩ dX1_putEnding_121
        · have c344 : ¬ (z309).toInt = (-1 : Int) := fun h9 => c344 (hq_eqi.mpr h9)
          refine lv_aload_n hx hb dX1_putEnding_94 rfl (lv_at hl 1 rfl) ?_
          have fx346 : V329 (t) = some (.inr (1, [.ref (e_be), .ref (e_tr), .int (e_fd), .ref (e_st), .ref (e_en), .ref (e_wo), .ref (e_bk), .ref (e_an), .ref (e_mk), .int (e_sz), .ref (e_ki), .ref (e_mi), .ref (e_ta)])) := (hq333.2 (t) _ h_t rfl).trans (fx328)
          refine hp_get (v := .ref (e_en)) hx hb hts hown hZ fx346 fl_X1_30 rfl dX1_putEnding_95 ?_
          refine lv_aload_n hx hb dX1_putEnding_98 rfl (lv_at hl 1 rfl) ?_
          refine hp_get (v := .ref (e_bk)) hx hb hts hown hZ fx346 fl_X1_50 rfl dX1_putEnding_99 ?_
          obtain ⟨u348, u349, u350, u351, z352, z353, z354, eV347, hu355, hu356, hu357, hu358, ⟨h359, h360⟩, ⟨h361, h362⟩, h363, h364⟩ := hq_o6 hP.1 h_e_bk
          refine hp_get (v := .ref (u351)) hx hb hts hown hZ eV347 fl_X1_124 rfl dX1_putEnding_102 ?_
          refine lv_iload_n hx hb dX1_putEnding_105 rfl (lv_at hl 0 rfl) ?_
          obtain ⟨hN367, g366, eV365, hf368, _⟩ := hq_o4 hP.1 hu358
          obtain ⟨u369, hx370, hu371⟩ := hf368 (z309 : Int32).toNatClampNeg (hq_ix (by omega) (by omega))
          have hu371 : G u369 = some (5, b, 0, 0) := hu371
          refine hp_aald (v := .ref (u369)) hx hb hZ 6 eV365 rfl (hq_in (by omega) (by omega)) (by rw [hx370]; rfl) dX1_putEnding_106 ?_
          obtain ⟨z373, z374, z375, z376, z377, z378, z379, z380, u381, u382, eV372, hu383, hu384, h385, h386⟩ := hq_o5 hP.1 hu371
          refine hp_get (v := .ref (u381)) hx hb hts hown hZ eV372 fl_X1_128 rfl dX1_putEnding_107 ?_
          obtain ⟨u394, z395, eV393, hu396, h397, h398, h399⟩ := hq_o0 hP.1 h_e_en
          refine hp_calli (hp_runV (As := [.ref (u381)]) (rest := []) hx hb hml hown hts (t_X9_addAll l D cs B G (fun g => g.1 == 5) V329 n hP.1 _ _ (e_en) h_e_en (u381) hu383 rfl rfl) hZ eV393 cv_X1_133 rfl rfl ⟨Nat.le_of_ble_eq_true rfl, Nat.le_of_ble_eq_true rfl⟩ rfl hl.1 rfl (Nat.le_of_ble_eq_true rfl) dX1_putEnding_110 ⟨(Nat.le_of_ble_eq_true rfl), (Nat.le_of_ble_eq_true rfl)⟩) hZ (fun r390 V387 n388 _ _ hw389 hZ => ?_)
          obtain ⟨rfl, hq391, hr392⟩ := hw389
          have hP := hP.trans hq391 (by intro g h; simp_all)
          have b400 := hq_rng r390
          refine lv_if_eq (tgt := 120) hx hb dX1_putEnding_113 (by decide) (fun c401 => ?_) (fun c401 => ?_)
          · have c401 : (r390).toInt = (0 : Int) := hq_eqi.mp c401
            refine lv_iconst (v := 0) hx hb dX1_putEnding_120 (by decide) ?_
            have fx402 : V387 (t) = some (.inr (1, [.ref (e_be), .ref (e_tr), .int (e_fd), .ref (e_st), .ref (e_en), .ref (e_wo), .ref (e_bk), .ref (e_an), .ref (e_mk), .int (e_sz), .ref (e_ki), .ref (e_mi), .ref (e_ta)])) := (hq391.2 (t) _ h_t rfl).trans (fx346)
            exact hp_zret hx hb hr rfl hlocks hZ ⟨rfl, hP, fx402, (by decide)⟩ dX1_putEnding_121
          · have c401 : ¬ (r390).toInt = (0 : Int) := fun h9 => c401 (hq_eqi.mpr h9)
            refine lv_iconst (v := 1) hx hb dX1_putEnding_116 (by decide) ?_
            refine lv_goto (tgt := 121) hx hb dX1_putEnding_117 (by decide) ?_
            have fx403 : V387 (t) = some (.inr (1, [.ref (e_be), .ref (e_tr), .int (e_fd), .ref (e_st), .ref (e_en), .ref (e_wo), .ref (e_bk), .ref (e_an), .ref (e_mk), .int (e_sz), .ref (e_ki), .ref (e_mi), .ref (e_ta)])) := (hq391.2 (t) _ h_t rfl).trans (fx346)
            exact hp_zret hx hb hr rfl hlocks hZ ⟨rfl, hP, fx403, (by decide)⟩ dX1_putEnding_121
    · have c316 : ¬ (k).toInt = (60 : Int) := fun h9 => c316 (hq_eqi.mpr h9)
      refine lv_iload_n hx hb dX1_putEnding_24 rfl (lv_at hl 2 rfl) ?_
      refine lv_bipush (v := -2) hx hb dX1_putEnding_25 (by decide) ?_
      refine lv_icmp_eq (tgt := 48) hx hb dX1_putEnding_27 (by decide) (fun c404 => ?_) (fun c404 => ?_)
      · have c404 : (k).toInt = (-2 : Int) := hq_eqi.mp c404
        refine lv_aload_n hx hb dX1_putEnding_48 rfl (lv_at hl 1 rfl) ?_
        refine hp_get (v := .ref (e_tr)) hx hb hts hown hZ ho_t fl_X1_18 rfl dX1_putEnding_49 ?_
        refine lv_iload_n hx hb dX1_putEnding_52 rfl (lv_at hl 2 rfl) ?_
        refine hp_put hx hb hts hown hZ eV306 fp_X1_111 rfl rfl (Nat.le_of_ble_eq_true rfl) dX1_putEnding_53 (fun V405 _ _ e406 o407 hZ => ?_)
        have e406 : V405 (e_tr) = some (.inr (10, [.int (z307), .int (z308), .int (z309), .int (z310), .int (k), .int (z312), .int (z313)])) := e406
        have hP := hP.put h_e_tr e406 o407 (hq_c13 (show -1 ≤ (z308).toInt ∧ (z308).toInt ≤ 59 by omega) (show -1 ≤ (z309).toInt ∧ (z309).toInt ≤ 59 by omega)) rfl
        refine lv_aload_n hx hb dX1_putEnding_56 rfl (lv_at hl 1 rfl) ?_
        have fx408 : V405 (t) = some (.inr (1, [.ref (e_be), .ref (e_tr), .int (e_fd), .ref (e_st), .ref (e_en), .ref (e_wo), .ref (e_bk), .ref (e_an), .ref (e_mk), .int (e_sz), .ref (e_ki), .ref (e_mi), .ref (e_ta)])) := (o407 (t) (hq_tne h_t h_e_tr (by simp))).trans (ho_t)
        refine hp_get (v := .ref (e_tr)) hx hb hts hown hZ fx408 fl_X1_18 rfl dX1_putEnding_57 ?_
        refine lv_iconst (v := -1) hx hb dX1_putEnding_60 (by decide) ?_
        refine hp_put hx hb hts hown hZ e406 fp_X1_114 rfl rfl (Nat.le_of_ble_eq_true rfl) dX1_putEnding_61 (fun V409 _ _ e410 o411 hZ => ?_)
        have e410 : V409 (e_tr) = some (.inr (10, [.int (z307), .int (z308), .int (z309), .int (z310), .int (k), .int (-1), .int (z313)])) := e410
        have hP := hP.put h_e_tr e410 o411 (hq_c13 (show -1 ≤ (z308).toInt ∧ (z308).toInt ≤ 59 by omega) (show -1 ≤ (z309).toInt ∧ (z309).toInt ≤ 59 by omega)) rfl
        refine lv_aload_n hx hb dX1_putEnding_64 rfl (lv_at hl 1 rfl) ?_
        have fx412 : V409 (t) = some (.inr (1, [.ref (e_be), .ref (e_tr), .int (e_fd), .ref (e_st), .ref (e_en), .ref (e_wo), .ref (e_bk), .ref (e_an), .ref (e_mk), .int (e_sz), .ref (e_ki), .ref (e_mi), .ref (e_ta)])) := (o411 (t) (hq_tne h_t h_e_tr (by simp))).trans (fx408)
        refine hp_get (v := .ref (e_tr)) hx hb hts hown hZ fx412 fl_X1_18 rfl dX1_putEnding_65 ?_
        refine lv_iconst (v := -1) hx hb dX1_putEnding_68 (by decide) ?_
        refine hp_put hx hb hts hown hZ e410 fp_X1_117 rfl rfl (Nat.le_of_ble_eq_true rfl) dX1_putEnding_69 (fun V413 _ _ e414 o415 hZ => ?_)
        have e414 : V413 (e_tr) = some (.inr (10, [.int (z307), .int (z308), .int (z309), .int (z310), .int (k), .int (-1), .int (-1)])) := e414
        have hP := hP.put h_e_tr e414 o415 (hq_c13 (show -1 ≤ (z308).toInt ∧ (z308).toInt ≤ 59 by omega) (show -1 ≤ (z309).toInt ∧ (z309).toInt ≤ 59 by omega)) rfl
        refine lv_aload_n hx hb dX1_putEnding_72 rfl (lv_at hl 1 rfl) ?_
        have fx416 : V413 (t) = some (.inr (1, [.ref (e_be), .ref (e_tr), .int (e_fd), .ref (e_st), .ref (e_en), .ref (e_wo), .ref (e_bk), .ref (e_an), .ref (e_mk), .int (e_sz), .ref (e_ki), .ref (e_mi), .ref (e_ta)])) := (o415 (t) (hq_tne h_t h_e_tr (by simp))).trans (fx412)
        refine hp_get (v := .ref (e_en)) hx hb hts hown hZ fx416 fl_X1_30 rfl dX1_putEnding_73 ?_
        refine lv_aload_n hx hb dX1_putEnding_76 rfl (lv_at hl 1 rfl) ?_
        refine hp_get (v := .ref (e_st)) hx hb hts hown hZ fx416 fl_X1_26 rfl dX1_putEnding_77 ?_
        obtain ⟨u424, z425, eV423, hu426, h427, h428, h429⟩ := hq_o0 hP.1 h_e_en
        refine hp_callv (hp_runV (As := [.ref (e_st)]) (rest := []) hx hb hml hown hts (t_X9_set l D cs B G (fun g => g.1 == 5) V413 n hP.1 _ _ (e_en) h_e_en (e_st) h_e_st rfl rfl) hZ eV423 cv_X1_120 rfl rfl ⟨Nat.le_of_ble_eq_true rfl, Nat.le_of_ble_eq_true rfl⟩ rfl hl.1 rfl (Nat.le_of_ble_eq_true rfl) dX1_putEnding_80 ⟨(Nat.le_of_ble_eq_true rfl), (Nat.le_of_ble_eq_true rfl)⟩) hZ (fun V417 n418 _ _ hw419 hZ => ?_)
        obtain ⟨rfl, hq421⟩ := hw419
        have hP := hP.trans hq421 (by intro g h; simp_all)
        refine lv_iload_n hx hb dX1_putEnding_83 rfl (lv_at hl 2 rfl) ?_
        refine lv_bipush (v := 60) hx hb dX1_putEnding_84 (by decide) ?_
        refine lv_icmp_eq (tgt := 116) hx hb dX1_putEnding_86 (by decide) (fun c430 => ?_) (fun c430 => ?_)
        · have c430 : (k).toInt = (60 : Int) := hq_eqi.mp c430
          refine lv_iconst (v := 1) hx hb dX1_putEnding_116 (by decide) ?_
          refine lv_goto (tgt := 121) hx hb dX1_putEnding_117 (by decide) ?_
          have fx431 : V417 (t) = some (.inr (1, [.ref (e_be), .ref (e_tr), .int (e_fd), .ref (e_st), .ref (e_en), .ref (e_wo), .ref (e_bk), .ref (e_an), .ref (e_mk), .int (e_sz), .ref (e_ki), .ref (e_mi), .ref (e_ta)])) := (hq421.2 (t) _ h_t rfl).trans (fx416)
          exact hp_zret hx hb hr rfl hlocks hZ ⟨rfl, hP, fx431, (by decide)⟩ dX1_putEnding_121
        · have c430 : ¬ (k).toInt = (60 : Int) := fun h9 => c430 (hq_eqi.mpr h9)
          refine lv_iload_n hx hb dX1_putEnding_89 rfl (lv_at hl 0 rfl) ?_
          refine lv_iconst (v := -1) hx hb dX1_putEnding_90 (by decide) ?_
          refine lv_icmp_eq (tgt := 120) hx hb dX1_putEnding_91 (by decide) (fun c432 => ?_) (fun c432 => ?_)
          · have c432 : (z309).toInt = (-1 : Int) := hq_eqi.mp c432
            refine lv_iconst (v := 0) hx hb dX1_putEnding_120 (by decide) ?_
            have fx433 : V417 (t) = some (.inr (1, [.ref (e_be), .ref (e_tr), .int (e_fd), .ref (e_st), .ref (e_en), .ref (e_wo), .ref (e_bk), .ref (e_an), .ref (e_mk), .int (e_sz), .ref (e_ki), .ref (e_mi), .ref (e_ta)])) := (hq421.2 (t) _ h_t rfl).trans (fx416)
            exact hp_zret hx hb hr rfl hlocks hZ ⟨rfl, hP, fx433, (by decide)⟩ dX1_putEnding_121
          · have c432 : ¬ (z309).toInt = (-1 : Int) := fun h9 => c432 (hq_eqi.mpr h9)
            refine lv_aload_n hx hb dX1_putEnding_94 rfl (lv_at hl 1 rfl) ?_
            have fx434 : V417 (t) = some (.inr (1, [.ref (e_be), .ref (e_tr), .int (e_fd), .ref (e_st), .ref (e_en), .ref (e_wo), .ref (e_bk), .ref (e_an), .ref (e_mk), .int (e_sz), .ref (e_ki), .ref (e_mi), .ref (e_ta)])) := (hq421.2 (t) _ h_t rfl).trans (fx416)
            refine hp_get (v := .ref (e_en)) hx hb hts hown hZ fx434 fl_X1_30 rfl dX1_putEnding_95 ?_
            refine lv_aload_n hx hb dX1_putEnding_98 rfl (lv_at hl 1 rfl) ?_
            refine hp_get (v := .ref (e_bk)) hx hb hts hown hZ fx434 fl_X1_50 rfl dX1_putEnding_99 ?_
            obtain ⟨u436, u437, u438, u439, z440, z441, z442, eV435, hu443, hu444, hu445, hu446, ⟨h447, h448⟩, ⟨h449, h450⟩, h451, h452⟩ := hq_o6 hP.1 h_e_bk
            refine hp_get (v := .ref (u439)) hx hb hts hown hZ eV435 fl_X1_124 rfl dX1_putEnding_102 ?_
            refine lv_iload_n hx hb dX1_putEnding_105 rfl (lv_at hl 0 rfl) ?_
            obtain ⟨hN455, g454, eV453, hf456, _⟩ := hq_o4 hP.1 hu446
            obtain ⟨u457, hx458, hu459⟩ := hf456 (z309 : Int32).toNatClampNeg (hq_ix (by omega) (by omega))
            have hu459 : G u457 = some (5, b, 0, 0) := hu459
            refine hp_aald (v := .ref (u457)) hx hb hZ 6 eV453 rfl (hq_in (by omega) (by omega)) (by rw [hx458]; rfl) dX1_putEnding_106 ?_
            obtain ⟨z461, z462, z463, z464, z465, z466, z467, z468, u469, u470, eV460, hu471, hu472, h473, h474⟩ := hq_o5 hP.1 hu459
            refine hp_get (v := .ref (u469)) hx hb hts hown hZ eV460 fl_X1_128 rfl dX1_putEnding_107 ?_
            obtain ⟨u482, z483, eV481, hu484, h485, h486, h487⟩ := hq_o0 hP.1 h_e_en
            refine hp_calli (hp_runV (As := [.ref (u469)]) (rest := []) hx hb hml hown hts (t_X9_addAll l D cs B G (fun g => g.1 == 5) V417 n hP.1 _ _ (e_en) h_e_en (u469) hu471 rfl rfl) hZ eV481 cv_X1_133 rfl rfl ⟨Nat.le_of_ble_eq_true rfl, Nat.le_of_ble_eq_true rfl⟩ rfl hl.1 rfl (Nat.le_of_ble_eq_true rfl) dX1_putEnding_110 ⟨(Nat.le_of_ble_eq_true rfl), (Nat.le_of_ble_eq_true rfl)⟩) hZ (fun r478 V475 n476 _ _ hw477 hZ => ?_)
            obtain ⟨rfl, hq479, hr480⟩ := hw477
            have hP := hP.trans hq479 (by intro g h; simp_all)
            have b488 := hq_rng r478
            refine lv_if_eq (tgt := 120) hx hb dX1_putEnding_113 (by decide) (fun c489 => ?_) (fun c489 => ?_)
            · have c489 : (r478).toInt = (0 : Int) := hq_eqi.mp c489
              refine lv_iconst (v := 0) hx hb dX1_putEnding_120 (by decide) ?_
              have fx490 : V475 (t) = some (.inr (1, [.ref (e_be), .ref (e_tr), .int (e_fd), .ref (e_st), .ref (e_en), .ref (e_wo), .ref (e_bk), .ref (e_an), .ref (e_mk), .int (e_sz), .ref (e_ki), .ref (e_mi), .ref (e_ta)])) := (hq479.2 (t) _ h_t rfl).trans (fx434)
              exact hp_zret hx hb hr rfl hlocks hZ ⟨rfl, hP, fx490, (by decide)⟩ dX1_putEnding_121
            · have c489 : ¬ (r478).toInt = (0 : Int) := fun h9 => c489 (hq_eqi.mpr h9)
              refine lv_iconst (v := 1) hx hb dX1_putEnding_116 (by decide) ?_
              refine lv_goto (tgt := 121) hx hb dX1_putEnding_117 (by decide) ?_
              have fx491 : V475 (t) = some (.inr (1, [.ref (e_be), .ref (e_tr), .int (e_fd), .ref (e_st), .ref (e_en), .ref (e_wo), .ref (e_bk), .ref (e_an), .ref (e_mk), .int (e_sz), .ref (e_ki), .ref (e_mi), .ref (e_ta)])) := (hq479.2 (t) _ h_t rfl).trans (fx434)
              exact hp_zret hx hb hr rfl hlocks hZ ⟨rfl, hP, fx491, (by decide)⟩ dX1_putEnding_121
      · have c404 : ¬ (k).toInt = (-2 : Int) := fun h9 => c404 (hq_eqi.mpr h9)
        refine lv_aload_n hx hb dX1_putEnding_30 rfl (lv_at hl 1 rfl) ?_
        refine lv_iload_n hx hb dX1_putEnding_31 rfl (lv_at hl 2 rfl) ?_
        refine lv_iconst (v := 1) hx hb dX1_putEnding_32 (by decide) ?_
        refine lv_aload_n hx hb dX1_putEnding_33 rfl (lv_at hl 1 rfl) ?_
        refine hp_get (v := .ref (e_tr)) hx hb hts hown hZ ho_t fl_X1_18 rfl dX1_putEnding_34 ?_
        refine hp_get (v := .int (z309)) hx hb hts hown hZ eV306 fl_X1_73 rfl dX1_putEnding_37 ?_
        have hl499 : (1 : Int32).toInt = 1 := by decide
        refine hp_calli (hp_runV (As := [.int (k), .int (1), .int (z309)]) (rest := []) hx hb hml hown hts (t_X1_isOther l D cs B G  V n hP.1 _ (t) h_t (k) (1) (z309) ho_t h_e_be h_e_tr h_e_st h_e_en h_e_wo h_e_bk h_e_an h_e_mk h_e_ki h_e_mi h_e_ta (by omega) (by omega) ) hZ ho_t cv_X1_107 rfl rfl ⟨Nat.le_of_ble_eq_true rfl, Nat.le_of_ble_eq_true rfl⟩ rfl hl.1 rfl (Nat.le_of_ble_eq_true rfl) dX1_putEnding_40 ⟨(Nat.le_of_ble_eq_true rfl), (Nat.le_of_ble_eq_true rfl)⟩) hZ (fun r495 V492 n493 _ _ hw494 hZ => ?_)
        obtain ⟨rfl, hq496, ho498, hr497⟩ := hw494
        have hP := hP.trans hq496 (fun _ _ => rfl)
        have b500 := hq_rng r495
        refine lv_if_ne (tgt := 48) hx hb dX1_putEnding_43 (by decide) (fun c501 => ?_) (fun c501 => ?_)
        · have c501 : ¬ (r495).toInt = (0 : Int) := fun h9 => c501 (hq_eqi.mpr h9)
          refine lv_aload_n hx hb dX1_putEnding_48 rfl (lv_at hl 1 rfl) ?_
          refine hp_get (v := .ref (e_tr)) hx hb hts hown hZ ho498 fl_X1_18 rfl dX1_putEnding_49 ?_
          refine lv_iload_n hx hb dX1_putEnding_52 rfl (lv_at hl 2 rfl) ?_
          have fx502 : V492 (e_tr) = some (.inr (10, [.int (z307), .int (z308), .int (z309), .int (z310), .int (z311), .int (z312), .int (z313)])) := (hq496.2 (e_tr) _ h_e_tr rfl).trans (eV306)
          refine hp_put hx hb hts hown hZ fx502 fp_X1_111 rfl rfl (Nat.le_of_ble_eq_true rfl) dX1_putEnding_53 (fun V503 _ _ e504 o505 hZ => ?_)
          have e504 : V503 (e_tr) = some (.inr (10, [.int (z307), .int (z308), .int (z309), .int (z310), .int (k), .int (z312), .int (z313)])) := e504
          have hP := hP.put h_e_tr e504 o505 (hq_c13 (show -1 ≤ (z308).toInt ∧ (z308).toInt ≤ 59 by omega) (show -1 ≤ (z309).toInt ∧ (z309).toInt ≤ 59 by omega)) rfl
          refine lv_aload_n hx hb dX1_putEnding_56 rfl (lv_at hl 1 rfl) ?_
          have fx506 : V503 (t) = some (.inr (1, [.ref (e_be), .ref (e_tr), .int (e_fd), .ref (e_st), .ref (e_en), .ref (e_wo), .ref (e_bk), .ref (e_an), .ref (e_mk), .int (e_sz), .ref (e_ki), .ref (e_mi), .ref (e_ta)])) := (o505 (t) (hq_tne h_t h_e_tr (by simp))).trans (ho498)
          refine hp_get (v := .ref (e_tr)) hx hb hts hown hZ fx506 fl_X1_18 rfl dX1_putEnding_57 ?_
          refine lv_iconst (v := -1) hx hb dX1_putEnding_60 (by decide) ?_
          refine hp_put hx hb hts hown hZ e504 fp_X1_114 rfl rfl (Nat.le_of_ble_eq_true rfl) dX1_putEnding_61 (fun V507 _ _ e508 o509 hZ => ?_)
          have e508 : V507 (e_tr) = some (.inr (10, [.int (z307), .int (z308), .int (z309), .int (z310), .int (k), .int (-1), .int (z313)])) := e508
          have hP := hP.put h_e_tr e508 o509 (hq_c13 (show -1 ≤ (z308).toInt ∧ (z308).toInt ≤ 59 by omega) (show -1 ≤ (z309).toInt ∧ (z309).toInt ≤ 59 by omega)) rfl
          refine lv_aload_n hx hb dX1_putEnding_64 rfl (lv_at hl 1 rfl) ?_
          have fx510 : V507 (t) = some (.inr (1, [.ref (e_be), .ref (e_tr), .int (e_fd), .ref (e_st), .ref (e_en), .ref (e_wo), .ref (e_bk), .ref (e_an), .ref (e_mk), .int (e_sz), .ref (e_ki), .ref (e_mi), .ref (e_ta)])) := (o509 (t) (hq_tne h_t h_e_tr (by simp))).trans (fx506)
          refine hp_get (v := .ref (e_tr)) hx hb hts hown hZ fx510 fl_X1_18 rfl dX1_putEnding_65 ?_
          refine lv_iconst (v := -1) hx hb dX1_putEnding_68 (by decide) ?_
          refine hp_put hx hb hts hown hZ e508 fp_X1_117 rfl rfl (Nat.le_of_ble_eq_true rfl) dX1_putEnding_69 (fun V511 _ _ e512 o513 hZ => ?_)
          have e512 : V511 (e_tr) = some (.inr (10, [.int (z307), .int (z308), .int (z309), .int (z310), .int (k), .int (-1), .int (-1)])) := e512
          have hP := hP.put h_e_tr e512 o513 (hq_c13 (show -1 ≤ (z308).toInt ∧ (z308).toInt ≤ 59 by omega) (show -1 ≤ (z309).toInt ∧ (z309).toInt ≤ 59 by omega)) rfl
          refine lv_aload_n hx hb dX1_putEnding_72 rfl (lv_at hl 1 rfl) ?_
          have fx514 : V511 (t) = some (.inr (1, [.ref (e_be), .ref (e_tr), .int (e_fd), .ref (e_st), .ref (e_en), .ref (e_wo), .ref (e_bk), .ref (e_an), .ref (e_mk), .int (e_sz), .ref (e_ki), .ref (e_mi), .ref (e_ta)])) := (o513 (t) (hq_tne h_t h_e_tr (by simp))).trans (fx510)
          refine hp_get (v := .ref (e_en)) hx hb hts hown hZ fx514 fl_X1_30 rfl dX1_putEnding_73 ?_
          refine lv_aload_n hx hb dX1_putEnding_76 rfl (lv_at hl 1 rfl) ?_
          refine hp_get (v := .ref (e_st)) hx hb hts hown hZ fx514 fl_X1_26 rfl dX1_putEnding_77 ?_
          obtain ⟨u522, z523, eV521, hu524, h525, h526, h527⟩ := hq_o0 hP.1 h_e_en
          refine hp_callv (hp_runV (As := [.ref (e_st)]) (rest := []) hx hb hml hown hts (t_X9_set l D cs B G (fun g => g.1 == 5) V511 n hP.1 _ _ (e_en) h_e_en (e_st) h_e_st rfl rfl) hZ eV521 cv_X1_120 rfl rfl ⟨Nat.le_of_ble_eq_true rfl, Nat.le_of_ble_eq_true rfl⟩ rfl hl.1 rfl (Nat.le_of_ble_eq_true rfl) dX1_putEnding_80 ⟨(Nat.le_of_ble_eq_true rfl), (Nat.le_of_ble_eq_true rfl)⟩) hZ (fun V515 n516 _ _ hw517 hZ => ?_)
          obtain ⟨rfl, hq519⟩ := hw517
          have hP := hP.trans hq519 (by intro g h; simp_all)
          refine lv_iload_n hx hb dX1_putEnding_83 rfl (lv_at hl 2 rfl) ?_
          refine lv_bipush (v := 60) hx hb dX1_putEnding_84 (by decide) ?_
          refine lv_icmp_eq (tgt := 116) hx hb dX1_putEnding_86 (by decide) (fun c528 => ?_) (fun c528 => ?_)
          · have c528 : (k).toInt = (60 : Int) := hq_eqi.mp c528
            refine lv_iconst (v := 1) hx hb dX1_putEnding_116 (by decide) ?_
            refine lv_goto (tgt := 121) hx hb dX1_putEnding_117 (by decide) ?_
            have fx529 : V515 (t) = some (.inr (1, [.ref (e_be), .ref (e_tr), .int (e_fd), .ref (e_st), .ref (e_en), .ref (e_wo), .ref (e_bk), .ref (e_an), .ref (e_mk), .int (e_sz), .ref (e_ki), .ref (e_mi), .ref (e_ta)])) := (hq519.2 (t) _ h_t rfl).trans (fx514)
            exact hp_zret hx hb hr rfl hlocks hZ ⟨rfl, hP, fx529, (by decide)⟩ dX1_putEnding_121
          · have c528 : ¬ (k).toInt = (60 : Int) := fun h9 => c528 (hq_eqi.mpr h9)
            refine lv_iload_n hx hb dX1_putEnding_89 rfl (lv_at hl 0 rfl) ?_
            refine lv_iconst (v := -1) hx hb dX1_putEnding_90 (by decide) ?_
            refine lv_icmp_eq (tgt := 120) hx hb dX1_putEnding_91 (by decide) (fun c530 => ?_) (fun c530 => ?_)
            · have c530 : (z309).toInt = (-1 : Int) := hq_eqi.mp c530
              refine lv_iconst (v := 0) hx hb dX1_putEnding_120 (by decide) ?_
              have fx531 : V515 (t) = some (.inr (1, [.ref (e_be), .ref (e_tr), .int (e_fd), .ref (e_st), .ref (e_en), .ref (e_wo), .ref (e_bk), .ref (e_an), .ref (e_mk), .int (e_sz), .ref (e_ki), .ref (e_mi), .ref (e_ta)])) := (hq519.2 (t) _ h_t rfl).trans (fx514)
              exact hp_zret hx hb hr rfl hlocks hZ ⟨rfl, hP, fx531, (by decide)⟩ dX1_putEnding_121
            · have c530 : ¬ (z309).toInt = (-1 : Int) := fun h9 => c530 (hq_eqi.mpr h9)
              refine lv_aload_n hx hb dX1_putEnding_94 rfl (lv_at hl 1 rfl) ?_
              have fx532 : V515 (t) = some (.inr (1, [.ref (e_be), .ref (e_tr), .int (e_fd), .ref (e_st), .ref (e_en), .ref (e_wo), .ref (e_bk), .ref (e_an), .ref (e_mk), .int (e_sz), .ref (e_ki), .ref (e_mi), .ref (e_ta)])) := (hq519.2 (t) _ h_t rfl).trans (fx514)
              refine hp_get (v := .ref (e_en)) hx hb hts hown hZ fx532 fl_X1_30 rfl dX1_putEnding_95 ?_
              refine lv_aload_n hx hb dX1_putEnding_98 rfl (lv_at hl 1 rfl) ?_
              refine hp_get (v := .ref (e_bk)) hx hb hts hown hZ fx532 fl_X1_50 rfl dX1_putEnding_99 ?_
              obtain ⟨u534, u535, u536, u537, z538, z539, z540, eV533, hu541, hu542, hu543, hu544, ⟨h545, h546⟩, ⟨h547, h548⟩, h549, h550⟩ := hq_o6 hP.1 h_e_bk
              refine hp_get (v := .ref (u537)) hx hb hts hown hZ eV533 fl_X1_124 rfl dX1_putEnding_102 ?_
              refine lv_iload_n hx hb dX1_putEnding_105 rfl (lv_at hl 0 rfl) ?_
              obtain ⟨hN553, g552, eV551, hf554, _⟩ := hq_o4 hP.1 hu544
              obtain ⟨u555, hx556, hu557⟩ := hf554 (z309 : Int32).toNatClampNeg (hq_ix (by omega) (by omega))
              have hu557 : G u555 = some (5, b, 0, 0) := hu557
              refine hp_aald (v := .ref (u555)) hx hb hZ 6 eV551 rfl (hq_in (by omega) (by omega)) (by rw [hx556]; rfl) dX1_putEnding_106 ?_
              obtain ⟨z559, z560, z561, z562, z563, z564, z565, z566, u567, u568, eV558, hu569, hu570, h571, h572⟩ := hq_o5 hP.1 hu557
              refine hp_get (v := .ref (u567)) hx hb hts hown hZ eV558 fl_X1_128 rfl dX1_putEnding_107 ?_
              obtain ⟨u580, z581, eV579, hu582, h583, h584, h585⟩ := hq_o0 hP.1 h_e_en
              refine hp_calli (hp_runV (As := [.ref (u567)]) (rest := []) hx hb hml hown hts (t_X9_addAll l D cs B G (fun g => g.1 == 5) V515 n hP.1 _ _ (e_en) h_e_en (u567) hu569 rfl rfl) hZ eV579 cv_X1_133 rfl rfl ⟨Nat.le_of_ble_eq_true rfl, Nat.le_of_ble_eq_true rfl⟩ rfl hl.1 rfl (Nat.le_of_ble_eq_true rfl) dX1_putEnding_110 ⟨(Nat.le_of_ble_eq_true rfl), (Nat.le_of_ble_eq_true rfl)⟩) hZ (fun r576 V573 n574 _ _ hw575 hZ => ?_)
              obtain ⟨rfl, hq577, hr578⟩ := hw575
              have hP := hP.trans hq577 (by intro g h; simp_all)
              have b586 := hq_rng r576
              refine lv_if_eq (tgt := 120) hx hb dX1_putEnding_113 (by decide) (fun c587 => ?_) (fun c587 => ?_)
              · have c587 : (r576).toInt = (0 : Int) := hq_eqi.mp c587
                refine lv_iconst (v := 0) hx hb dX1_putEnding_120 (by decide) ?_
                have fx588 : V573 (t) = some (.inr (1, [.ref (e_be), .ref (e_tr), .int (e_fd), .ref (e_st), .ref (e_en), .ref (e_wo), .ref (e_bk), .ref (e_an), .ref (e_mk), .int (e_sz), .ref (e_ki), .ref (e_mi), .ref (e_ta)])) := (hq577.2 (t) _ h_t rfl).trans (fx532)
                exact hp_zret hx hb hr rfl hlocks hZ ⟨rfl, hP, fx588, (by decide)⟩ dX1_putEnding_121
              · have c587 : ¬ (r576).toInt = (0 : Int) := fun h9 => c587 (hq_eqi.mpr h9)
                refine lv_iconst (v := 1) hx hb dX1_putEnding_116 (by decide) ?_
                refine lv_goto (tgt := 121) hx hb dX1_putEnding_117 (by decide) ?_
                have fx589 : V573 (t) = some (.inr (1, [.ref (e_be), .ref (e_tr), .int (e_fd), .ref (e_st), .ref (e_en), .ref (e_wo), .ref (e_bk), .ref (e_an), .ref (e_mk), .int (e_sz), .ref (e_ki), .ref (e_mi), .ref (e_ta)])) := (hq577.2 (t) _ h_t rfl).trans (fx532)
                exact hp_zret hx hb hr rfl hlocks hZ ⟨rfl, hP, fx589, (by decide)⟩ dX1_putEnding_121
        · have c501 : (r495).toInt = (0 : Int) := hq_eqi.mp c501
          refine lv_iconst (v := 0) hx hb dX1_putEnding_46 (by decide) ?_
          exact hp_zret hx hb hr rfl hlocks hZ ⟨rfl, hP, ho498, (by decide)⟩ dX1_putEnding_47

set_option maxHeartbeats 4000000 in
set_option maxRecDepth 100000 in
theorem t_X1_explain (l : Launch) (D : va_G) (cs : Nat → ClassId) (B : Nat) (G : hq_G) (V : hp_V) (n : Nat) (hI : hq_I cs G V) (b : Nat) (t : Nat) (h_t : G t = some (14, 0, 0, 0)) (u : Nat) (h_u : G u = some (6, b, 0, 0)) (w : Nat) (h_w : G w = some (0, 4000, 0, 0)) (mk : Nat) (h_mk : G mk = some (11, 0, 0, 0)) (v : Int32) (te : Int32) (pe : Int32) {e_be e_tr e_st e_en e_wo e_ki e_mi e_ta : Nat} {e_fd e_sz : Int32} {e_bk e_an e_mk : Value} (ho_t : V t = some (.inr (1, [.ref (e_be), .ref (e_tr), .int (e_fd), .ref (e_st), .ref (e_en), .ref (e_wo), e_bk, e_an, e_mk, .int (e_sz), .ref (e_ki), .ref (e_mi), .ref (e_ta)]))) (h_e_be : G e_be = some (13, 0, 0, 0)) (h_e_tr : G e_tr = some (13, 0, 0, 0)) (h_e_st : G e_st = some (0, 30, 0, 0)) (h_e_en : G e_en = some (0, 30, 0, 0)) (h_e_wo : G e_wo = some (0, 30, 0, 0)) (h_e_ki : G e_ki = some (2, 8, 2, 0)) (h_e_mi : G e_mi = some (2, 8, 2, 0)) (h_e_ta : G e_ta = some (2, 8, 2, 0)) (hi_t0 : 0 ≤ e_fd.toInt ∧ e_fd.toInt ≤ 1) (hi_t1 : 0 ≤ e_sz.toInt ∧ e_sz.toInt ≤ 2) (hv0 : 0 ≤ v.toInt) (hv1 : v.toInt < 30) : hp_M l yX1_explain cX1_explain 9 (some .boolean) ({ frames := 7, cells := 0, slots := 0, locals := 170 }) D cs B V n [.ref (t), .ref (u), .ref (w), .ref (mk), .int (v), .int (te), .int (pe)] (hp_QI D cs B (fun r V' n' => n = n' ∧ hq_P cs G (fun g => g.1 == 5 || g.1 == 7 || g.1 == 8 || g.1 == 13) V V' ∧ (∃ (e_bk1 : Value) (e_an1 : Value) (e_mk1 : Value) (e_fd1 : Int32) (e_sz1 : Int32), V' t = some (.inr (1, [.ref (e_be), .ref (e_tr), .int (e_fd1), .ref (e_st), .ref (e_en), .ref (e_wo), e_bk1, e_an1, e_mk1, .int (e_sz1), .ref (e_ki), .ref (e_mi), .ref (e_ta)])) ∧ (0 ≤ e_fd1.toInt ∧ e_fd1.toInt ≤ 1) ∧ (0 ≤ e_sz1.toInt ∧ e_sz1.toInt ≤ 2)) ∧ (0 ≤ r.toInt ∧ r.toInt ≤ 1))) 0 0 := by
  refine hp_walk (R0 := RX1) (by decide) rfl ?_ (Nat.le_of_ble_eq_true rfl)
  intro p e s m below meth c ls hx hb hr hts hown hlocks hin hml hZ hl
  have hP : hq_P cs G (fun g => g.1 == 5 || g.1 == 7 || g.1 == 8 || g.1 == 13) V V := hq_P.rf hI
  have hl : lv_has ls 9 [(0, .ref (t)), (1, .ref (u)), (2, .ref (w)), (3, .ref (mk)), (4, .int (v)), (5, .int (te)), (6, .int (pe))] := hl
  have hb_v := hq_rng v
  have hb_te := hq_rng te
  have hb_pe := hq_rng pe
  have hb_e_fd := hq_rng e_fd
  have hb_e_sz := hq_rng e_sz
  refine lv_aload_n hx hb dX1_explain_0 rfl (lv_at hl 0 rfl) ?_
  refine lv_aload_n hx hb dX1_explain_1 rfl (lv_at hl 1 rfl) ?_
  refine hp_put hx hb hts hown hZ ho_t fp_X1_50 rfl rfl (Nat.le_of_ble_eq_true rfl) dX1_explain_2 (fun V1 _ _ e2 o3 hZ => ?_)
  have e2 : V1 (t) = some (.inr (1, [.ref (e_be), .ref (e_tr), .int (e_fd), .ref (e_st), .ref (e_en), .ref (e_wo), .ref (u), e_an, e_mk, .int (e_sz), .ref (e_ki), .ref (e_mi), .ref (e_ta)])) := e2
  have hP := hP.put h_t e2 o3 (trivial) rfl
  refine lv_aload_n hx hb dX1_explain_5 rfl (lv_at hl 0 rfl) ?_
  refine lv_aload_n hx hb dX1_explain_6 rfl (lv_at hl 2 rfl) ?_
  refine hp_put hx hb hts hown hZ e2 fp_X1_54 rfl rfl (Nat.le_of_ble_eq_true rfl) dX1_explain_7 (fun V4 _ _ e5 o6 hZ => ?_)
  have e5 : V4 (t) = some (.inr (1, [.ref (e_be), .ref (e_tr), .int (e_fd), .ref (e_st), .ref (e_en), .ref (e_wo), .ref (u), .ref (w), e_mk, .int (e_sz), .ref (e_ki), .ref (e_mi), .ref (e_ta)])) := e5
  have hP := hP.put h_t e5 o6 (trivial) rfl
  refine lv_aload_n hx hb dX1_explain_10 rfl (lv_at hl 0 rfl) ?_
  refine lv_aload_n hx hb dX1_explain_11 rfl (lv_at hl 3 rfl) ?_
  refine hp_put hx hb hts hown hZ e5 fp_X1_57 rfl rfl (Nat.le_of_ble_eq_true rfl) dX1_explain_12 (fun V7 _ _ e8 o9 hZ => ?_)
  have e8 : V7 (t) = some (.inr (1, [.ref (e_be), .ref (e_tr), .int (e_fd), .ref (e_st), .ref (e_en), .ref (e_wo), .ref (u), .ref (w), .ref (mk), .int (e_sz), .ref (e_ki), .ref (e_mi), .ref (e_ta)])) := e8
  have hP := hP.put h_t e8 o9 (trivial) rfl
  refine lv_aload_n hx hb dX1_explain_15 rfl (lv_at hl 0 rfl) ?_
  refine hp_get (v := .ref (e_tr)) hx hb hts hown hZ e8 fl_X1_18 rfl dX1_explain_16 ?_
  refine lv_aload_n hx hb dX1_explain_19 rfl (lv_at hl 0 rfl) ?_
  refine hp_get (v := .ref (u)) hx hb hts hown hZ e8 fl_X1_50 rfl dX1_explain_20 ?_
  refine lv_iconst (v := 4) hx hb dX1_explain_23 (by decide) ?_
  refine lv_iconst (v := 0) hx hb dX1_explain_24 (by decide) ?_
  refine lv_iload hx hb dX1_explain_25 (lv_at hl 4 rfl) ?_
  refine lv_iload hx hb dX1_explain_27 (lv_at hl 5 rfl) ?_
  refine lv_iload hx hb dX1_explain_29 (lv_at hl 6 rfl) ?_
  have hl16 : (4 : Int32).toInt = 4 := by decide
  have hl17 : (0 : Int32).toInt = 0 := by decide
  obtain ⟨u19, u20, u21, u22, z23, z24, z25, eV18, hu26, hu27, hu28, hu29, ⟨h30, h31⟩, ⟨h32, h33⟩, h34, h35⟩ := hq_o6 hP.1 h_u
  refine hp_calli (hp_runV (As := [.int (4), .int (0), .int (v), .int (te), .int (pe)]) (rest := [.ref (e_tr)]) hx hb hml hown hts (t_X0_nextFitting l D cs B G  V7 n hP.1 _ (u) h_u (4) (0) (v) (te) (pe) (by first | omega | decide) (by omega) (by omega)) hZ eV18 cv_X1_61 rfl rfl ⟨Nat.le_of_ble_eq_true rfl, Nat.le_of_ble_eq_true rfl⟩ rfl hl.1 rfl (Nat.le_of_ble_eq_true rfl) dX1_explain_31 ⟨(Nat.le_of_ble_eq_true rfl), (Nat.le_of_ble_eq_true rfl)⟩) hZ (fun r13 V10 n11 _ _ hw12 hZ => ?_)
  obtain ⟨rfl, hq14, hr15⟩ := hw12
  have hP := hP.trans hq14 (fun _ _ => rfl)
  have b36 := hq_rng r13
  obtain ⟨z38, z39, z40, z41, z42, z43, z44, eV37, h45, h46⟩ := hq_o13 hP.1 h_e_tr
  refine hp_put hx hb hts hown hZ eV37 fp_X1_67 rfl rfl (Nat.le_of_ble_eq_true rfl) dX1_explain_34 (fun V47 _ _ e48 o49 hZ => ?_)
  have e48 : V47 (e_tr) = some (.inr (10, [.int (r13), .int (z39), .int (z40), .int (z41), .int (z42), .int (z43), .int (z44)])) := e48
  have hP := hP.put h_e_tr e48 o49 (hq_c13 (show -1 ≤ (z39).toInt ∧ (z39).toInt ≤ 59 by omega) (show -1 ≤ (z40).toInt ∧ (z40).toInt ≤ 59 by omega)) rfl
  refine lv_aload_n hx hb dX1_explain_37 rfl (lv_at hl 0 rfl) ?_
  have fx50 : V47 (t) = some (.inr (1, [.ref (e_be), .ref (e_tr), .int (e_fd), .ref (e_st), .ref (e_en), .ref (e_wo), .ref (u), .ref (w), .ref (mk), .int (e_sz), .ref (e_ki), .ref (e_mi), .ref (e_ta)])) := (o49 (t) (hq_tne h_t h_e_tr (by simp))).trans ((hq14.2 (t) _ h_t rfl).trans (e8))
  refine hp_get (v := .ref (e_tr)) hx hb hts hown hZ fx50 fl_X1_18 rfl dX1_explain_38 ?_
  refine lv_aload_n hx hb dX1_explain_41 rfl (lv_at hl 0 rfl) ?_
  refine hp_get (v := .ref (u)) hx hb hts hown hZ fx50 fl_X1_50 rfl dX1_explain_42 ?_
  refine lv_iconst (v := 0) hx hb dX1_explain_45 (by decide) ?_
  refine lv_iconst (v := 0) hx hb dX1_explain_46 (by decide) ?_
  refine lv_iload hx hb dX1_explain_47 (lv_at hl 4 rfl) ?_
  refine lv_iload hx hb dX1_explain_49 (lv_at hl 5 rfl) ?_
  refine lv_iload hx hb dX1_explain_51 (lv_at hl 6 rfl) ?_
  have hl57 : (0 : Int32).toInt = 0 := by decide
  have hl58 : (0 : Int32).toInt = 0 := by decide
  have fx59 : V47 (u) = some (.inr (0, [.ref (u19), .int (z23), .ref (u20), .ref (u21), .int (z24), .ref (u22), .int (z25)])) := (o49 (u) (hq_tne h_u h_e_tr (by simp))).trans ((hq14.2 (u) _ h_u rfl).trans (eV18))
  refine hp_calli (hp_runV (As := [.int (0), .int (0), .int (v), .int (te), .int (pe)]) (rest := [.ref (e_tr)]) hx hb hml hown hts (t_X0_nextFitting l D cs B G  V47 n hP.1 _ (u) h_u (0) (0) (v) (te) (pe) (by first | omega | decide) (by omega) (by omega)) hZ fx59 cv_X1_61 rfl rfl ⟨Nat.le_of_ble_eq_true rfl, Nat.le_of_ble_eq_true rfl⟩ rfl hl.1 rfl (Nat.le_of_ble_eq_true rfl) dX1_explain_53 ⟨(Nat.le_of_ble_eq_true rfl), (Nat.le_of_ble_eq_true rfl)⟩) hZ (fun r54 V51 n52 _ _ hw53 hZ => ?_)
  obtain ⟨rfl, hq55, hr56⟩ := hw53
  have hP := hP.trans hq55 (fun _ _ => rfl)
  have b60 := hq_rng r54
  have fx61 : V51 (e_tr) = some (.inr (10, [.int (r13), .int (z39), .int (z40), .int (z41), .int (z42), .int (z43), .int (z44)])) := (hq55.2 (e_tr) _ h_e_tr rfl).trans (e48)
  refine hp_put hx hb hts hown hZ fx61 fp_X1_70 rfl rfl (Nat.le_of_ble_eq_true rfl) dX1_explain_56 (fun V62 _ _ e63 o64 hZ => ?_)
  have e63 : V62 (e_tr) = some (.inr (10, [.int (r13), .int (r54), .int (z40), .int (z41), .int (z42), .int (z43), .int (z44)])) := e63
  have hP := hP.put h_e_tr e63 o64 (hq_c13 (show -1 ≤ (r54).toInt ∧ (r54).toInt ≤ 59 by omega) (show -1 ≤ (z40).toInt ∧ (z40).toInt ≤ 59 by omega)) rfl
  refine lv_aload_n hx hb dX1_explain_59 rfl (lv_at hl 0 rfl) ?_
  have fx65 : V62 (t) = some (.inr (1, [.ref (e_be), .ref (e_tr), .int (e_fd), .ref (e_st), .ref (e_en), .ref (e_wo), .ref (u), .ref (w), .ref (mk), .int (e_sz), .ref (e_ki), .ref (e_mi), .ref (e_ta)])) := (o64 (t) (hq_tne h_t h_e_tr (by simp))).trans ((hq55.2 (t) _ h_t rfl).trans (fx50))
  refine hp_get (v := .ref (e_tr)) hx hb hts hown hZ fx65 fl_X1_18 rfl dX1_explain_60 ?_
  refine lv_aload_n hx hb dX1_explain_63 rfl (lv_at hl 0 rfl) ?_
  refine hp_get (v := .ref (u)) hx hb hts hown hZ fx65 fl_X1_50 rfl dX1_explain_64 ?_
  refine lv_iconst (v := 1) hx hb dX1_explain_67 (by decide) ?_
  refine lv_iconst (v := 0) hx hb dX1_explain_68 (by decide) ?_
  refine lv_iload hx hb dX1_explain_69 (lv_at hl 4 rfl) ?_
  refine lv_iload hx hb dX1_explain_71 (lv_at hl 5 rfl) ?_
  refine lv_iload hx hb dX1_explain_73 (lv_at hl 6 rfl) ?_
  have hl72 : (1 : Int32).toInt = 1 := by decide
  have hl73 : (0 : Int32).toInt = 0 := by decide
  have fx74 : V62 (u) = some (.inr (0, [.ref (u19), .int (z23), .ref (u20), .ref (u21), .int (z24), .ref (u22), .int (z25)])) := (o64 (u) (hq_tne h_u h_e_tr (by simp))).trans ((hq55.2 (u) _ h_u rfl).trans (fx59))
  refine hp_calli (hp_runV (As := [.int (1), .int (0), .int (v), .int (te), .int (pe)]) (rest := [.ref (e_tr)]) hx hb hml hown hts (t_X0_nextFitting l D cs B G  V62 n hP.1 _ (u) h_u (1) (0) (v) (te) (pe) (by first | omega | decide) (by omega) (by omega)) hZ fx74 cv_X1_61 rfl rfl ⟨Nat.le_of_ble_eq_true rfl, Nat.le_of_ble_eq_true rfl⟩ rfl hl.1 rfl (Nat.le_of_ble_eq_true rfl) dX1_explain_75 ⟨(Nat.le_of_ble_eq_true rfl), (Nat.le_of_ble_eq_true rfl)⟩) hZ (fun r69 V66 n67 _ _ hw68 hZ => ?_)
  obtain ⟨rfl, hq70, hr71⟩ := hw68
  have hP := hP.trans hq70 (fun _ _ => rfl)
  have b75 := hq_rng r69
  have fx76 : V66 (e_tr) = some (.inr (10, [.int (r13), .int (r54), .int (z40), .int (z41), .int (z42), .int (z43), .int (z44)])) := (hq70.2 (e_tr) _ h_e_tr rfl).trans (e63)
  refine hp_put hx hb hts hown hZ fx76 fp_X1_73 rfl rfl (Nat.le_of_ble_eq_true rfl) dX1_explain_78 (fun V77 _ _ e78 o79 hZ => ?_)
  have e78 : V77 (e_tr) = some (.inr (10, [.int (r13), .int (r54), .int (r69), .int (z41), .int (z42), .int (z43), .int (z44)])) := e78
  have hP := hP.put h_e_tr e78 o79 (hq_c13 (show -1 ≤ (r54).toInt ∧ (r54).toInt ≤ 59 by omega) (show -1 ≤ (r69).toInt ∧ (r69).toInt ≤ 59 by omega)) rfl
  refine lv_aload_n hx hb dX1_explain_81 rfl (lv_at hl 0 rfl) ?_
  refine lv_iconst (v := 0) hx hb dX1_explain_82 (by decide) ?_
  have fx80 : V77 (t) = some (.inr (1, [.ref (e_be), .ref (e_tr), .int (e_fd), .ref (e_st), .ref (e_en), .ref (e_wo), .ref (u), .ref (w), .ref (mk), .int (e_sz), .ref (e_ki), .ref (e_mi), .ref (e_ta)])) := (o79 (t) (hq_tne h_t h_e_tr (by simp))).trans ((hq70.2 (t) _ h_t rfl).trans (fx65))
  refine hp_put hx hb hts hown hZ fx80 fp_X1_76 rfl rfl (Nat.le_of_ble_eq_true rfl) dX1_explain_83 (fun V81 _ _ e82 o83 hZ => ?_)
  have e82 : V81 (t) = some (.inr (1, [.ref (e_be), .ref (e_tr), .int (0), .ref (e_st), .ref (e_en), .ref (e_wo), .ref (u), .ref (w), .ref (mk), .int (e_sz), .ref (e_ki), .ref (e_mi), .ref (e_ta)])) := e82
  have hP := hP.put h_t e82 o83 (trivial) rfl
  refine lv_bipush (v := -2) hx hb dX1_explain_86 (by decide) ?_
  refine lv_istore (lv' := [(7, .int (-2)), (0, .ref (t)), (1, .ref (u)), (2, .ref (w)), (3, .ref (mk)), (4, .int (v)), (5, .int (te)), (6, .int (pe))]) hx hb dX1_explain_88 hl (by decide) rfl (fun ls hl => ?_)
  have hl84 : (-2 : Int32).toInt = -2 := by decide
  have hl85 : (0 : Int32).toInt = 0 := by decide
  suffices lp90 : ∀ (k9 : Nat) (V9 : hp_V) (H9 : Heap) (locs9 : List Loc) (ls : Array Slot) (i : Int32) (f9 : Int32), (100 - i.toInt).toNat = k9 → hp_Z D cs B s V9 H9 n locs9 → hq_P cs G (fun g => g.1 == 5 || g.1 == 7 || g.1 == 8 || g.1 == 13) V V9 → V9 (t) = some (.inr (1, [.ref (e_be), .ref (e_tr), .int (f9), .ref (e_st), .ref (e_en), .ref (e_wo), .ref (u), .ref (w), .ref (mk), .int (e_sz), .ref (e_ki), .ref (e_mi), .ref (e_ta)])) → -2 ≤ i.toInt → i.toInt ≤ 60 → 0 ≤ f9.toInt ∧ f9.toInt ≤ 1 → lv_has ls 9 [(7, .int (i)), (0, .ref (t)), (1, .ref (u)), (2, .ref (w)), (3, .ref (mk)), (4, .int (v)), (5, .int (te)), (6, .int (pe))] → W p l e ({ frames := 7, cells := 0, slots := 0, locals := 170 }) s m ([.ref (t), .ref (u), .ref (w), .ref (mk), .int (v), .int (te), .int (pe)] : List Value).toArray below meth c H9 locs9 0 0 (MQ below (hp_QI D cs B (fun r V' n' => n = n' ∧ hq_P cs G (fun g => g.1 == 5 || g.1 == 7 || g.1 == 8 || g.1 == 13) V V' ∧ (∃ (e_bk1 : Value) (e_an1 : Value) (e_mk1 : Value) (e_fd1 : Int32) (e_sz1 : Int32), V' t = some (.inr (1, [.ref (e_be), .ref (e_tr), .int (e_fd1), .ref (e_st), .ref (e_en), .ref (e_wo), e_bk1, e_an1, e_mk1, .int (e_sz1), .ref (e_ki), .ref (e_mi), .ref (e_ta)])) ∧ (0 ≤ e_fd1.toInt ∧ e_fd1.toInt ≤ 1) ∧ (0 ≤ e_sz1.toInt ∧ e_sz1.toInt ≤ 2)) ∧ (0 ≤ r.toInt ∧ r.toInt ≤ 1))) ([.ref (t), .ref (u), .ref (w), .ref (mk), .int (v), .int (te), .int (pe)] : List Value).toArray s 0 0 (hp_F B)) (F0 m 90 ls []) from lp90 _ _ _ _ ls (-2) (0) rfl hZ hP e82 (by omega) (by omega) (by omega) (lv_sub hl [0, 1, 2, 3, 4, 5, 6, 7] rfl)
  intro k9
  induction k9 using Nat.strongRecOn with
  | _ k9 ih90 =>
    intro V9 H9 locs9 ls i f9 hk90 hZ hP ho86 hv87 hv88 hv89 hl
    have hb_i := hq_rng i
    have hb_f9 := hq_rng f9
    have hP_90 := hP
    refine lv_iload hx hb dX1_explain_90 (lv_at hl 0 rfl) ?_
    refine lv_aload_n hx hb dX1_explain_92 rfl (lv_at hl 1 rfl) ?_
    refine hp_get (v := .ref (u)) hx hb hts hown hZ ho86 fl_X1_50 rfl dX1_explain_93 ?_
    obtain ⟨u91, u92, u93, u94, z95, z96, z97, eV90, hu98, hu99, hu100, hu101, ⟨h102, h103⟩, ⟨h104, h105⟩, h106, h107⟩ := hq_o6 hP.1 h_u
    refine hp_get (v := .int (z97)) hx hb hts hown hZ eV90 fl_X1_80 rfl dX1_explain_96 ?_
    refine lv_icmp_ge (tgt := 156) hx hb dX1_explain_99 (by decide) (fun c108 => ?_) (fun c108 => ?_)
    · have c108 : (z97).toInt ≤ (i).toInt := hq_lei.mp c108
      refine lv_aload_n hx hb dX1_explain_156 rfl (lv_at hl 1 rfl) ?_
      refine hp_get (v := .int (f9)) hx hb hts hown hZ ho86 fl_X1_76 rfl dX1_explain_157 ?_
      refine lv_if_eq (tgt := 167) hx hb dX1_explain_160 (by decide) (fun c109 => ?_) (fun c109 => ?_)
      · have c109 : (f9).toInt = (0 : Int) := hq_eqi.mp c109
        refine lv_aload_n hx hb dX1_explain_167 rfl (lv_at hl 1 rfl) ?_
        refine hp_get (v := .int (f9)) hx hb hts hown hZ ho86 fl_X1_76 rfl dX1_explain_168 ?_
        exact hp_zret hx hb hr (hq_nzi (by omega) (by omega)) hlocks hZ ⟨rfl, hP, ⟨(.ref (u)), (.ref (w)), (.ref (mk)), f9, e_sz, ho86, by omega, by omega⟩, (by constructor <;> omega)⟩ dX1_explain_171
      · have c109 : ¬ (f9).toInt = (0 : Int) := fun h9 => c109 (hq_eqi.mpr h9)
        refine lv_aload_n hx hb dX1_explain_163 rfl (lv_at hl 1 rfl) ?_
        refine hp_callv (hp_runV (As := []) (rest := []) hx hb hml hown hts (t_X1_tell l D cs B G  V9 n hP.1  (t) h_t ho86 h_e_be h_e_tr h_e_st h_e_en h_e_wo h_e_ki h_e_mi h_e_ta (by omega) (by omega) ) hZ ho86 cv_X1_98 rfl rfl ⟨Nat.le_of_ble_eq_true rfl, Nat.le_of_ble_eq_true rfl⟩ rfl hl.1 rfl (Nat.le_of_ble_eq_true rfl) dX1_explain_164 ⟨(Nat.le_of_ble_eq_true rfl), (Nat.le_of_ble_eq_true rfl)⟩) hZ (fun V110 n111 _ _ hw112 hZ => ?_)
        obtain ⟨rfl, hq114, ⟨z116, ho117, hi118⟩⟩ := hw112
        have hP := hP.trans hq114 (by intro g h; simp_all)
        have b119 := hq_rng z116
        refine lv_aload_n hx hb dX1_explain_167 rfl (lv_at hl 1 rfl) ?_
        refine hp_get (v := .int (f9)) hx hb hts hown hZ ho117 fl_X1_76 rfl dX1_explain_168 ?_
        exact hp_zret hx hb hr (hq_nzi (by omega) (by omega)) hlocks hZ ⟨rfl, hP, ⟨(.ref (u)), (.ref (w)), (.ref (mk)), f9, z116, ho117, by omega, by omega⟩, (by constructor <;> omega)⟩ dX1_explain_171
    · have c108 : ¬ (z97).toInt ≤ (i).toInt := fun h9 => c108 (hq_lei.mpr h9)
      refine lv_aload_n hx hb dX1_explain_102 rfl (lv_at hl 1 rfl) ?_
      refine lv_iload hx hb dX1_explain_103 (lv_at hl 5 rfl) ?_
      refine lv_iload hx hb dX1_explain_105 (lv_at hl 0 rfl) ?_
      refine hp_calli (hp_runV (As := [.int (v), .int (i)]) (rest := []) hx hb hml hown hts (t_X1_putStem l D cs B G  V9 n hP.1 _ (t) h_t (v) (i) ho86 h_e_be h_e_tr h_e_st h_e_en h_e_wo h_u h_w h_mk h_e_ki h_e_mi h_e_ta (by omega) (by omega) (by omega) (by omega)) hZ ho86 cv_X1_83 rfl rfl ⟨Nat.le_of_ble_eq_true rfl, Nat.le_of_ble_eq_true rfl⟩ rfl hl.1 rfl (Nat.le_of_ble_eq_true rfl) dX1_explain_107 ⟨(Nat.le_of_ble_eq_true rfl), (Nat.le_of_ble_eq_true rfl)⟩) hZ (fun r123 V120 n121 _ _ hw122 hZ => ?_)
      obtain ⟨rfl, hq124, ho126, hr125⟩ := hw122
      have hP := hP.trans hq124 (by intro g h; simp_all)
      have b127 := hq_rng r123
      refine lv_if_eq (tgt := 150) hx hb dX1_explain_110 (by decide) (fun c128 => ?_) (fun c128 => ?_)
      · have c128 : (r123).toInt = (0 : Int) := hq_eqi.mp c128
        obtain ⟨y129, ey130⟩ : ∃ y : Int32, y = i + (1) := ⟨_, rfl⟩
        obtain ⟨k131, hk132, b133, b134⟩ := hq_add (i) (1)
        rw [← ey130] at hk132 b133 b134
        have hk132 : (y129).toInt = (i).toInt + (1) + k131 * 4294967296 := hk132
        refine lv_iinc (v := y129) (lv' := [(7, .int (y129)), (0, .ref (t)), (1, .ref (u)), (2, .ref (w)), (3, .ref (mk)), (4, .int (v)), (5, .int (te)), (6, .int (pe))]) hx hb dX1_explain_150 hl (k := 0) rfl (by rw [ey130]; rfl) (by decide) rfl (fun ls hl => ?_)
        refine lv_goto (tgt := 90) hx hb dX1_explain_153 (by decide) ?_
        exact ih90 _ (by omega) _ _ _ ls (y129) (f9) rfl hZ hP ho126 (by omega) (by omega) (by omega) (lv_sub hl [0, 1, 2, 3, 4, 5, 6, 7] rfl)
      · have c128 : ¬ (r123).toInt = (0 : Int) := fun h9 => c128 (hq_eqi.mpr h9)
        refine lv_bipush (v := -2) hx hb dX1_explain_113 (by decide) ?_
        refine lv_istore (lv' := [(8, .int (-2)), (7, .int (i)), (0, .ref (t)), (1, .ref (u)), (2, .ref (w)), (3, .ref (mk)), (4, .int (v)), (5, .int (te)), (6, .int (pe))]) hx hb dX1_explain_115 hl (by decide) rfl (fun ls hl => ?_)
        have hl135 : (-2 : Int32).toInt = -2 := by decide
        suffices lp117 : ∀ (k9 : Nat) (V9 : hp_V) (H9 : Heap) (locs9 : List Loc) (ls : Array Slot) (j : Int32) (f8 : Int32), (100 - j.toInt).toNat = k9 → hp_Z D cs B s V9 H9 n locs9 → hq_P cs G (fun g => g.1 == 5 || g.1 == 7 || g.1 == 8 || g.1 == 13) V V9 → V9 (t) = some (.inr (1, [.ref (e_be), .ref (e_tr), .int (f8), .ref (e_st), .ref (e_en), .ref (e_wo), .ref (u), .ref (w), .ref (mk), .int (e_sz), .ref (e_ki), .ref (e_mi), .ref (e_ta)])) → -2 ≤ j.toInt → j.toInt ≤ 61 → 0 ≤ f8.toInt ∧ f8.toInt ≤ 1 → lv_has ls 9 [(8, .int (j)), (7, .int (i)), (0, .ref (t)), (1, .ref (u)), (2, .ref (w)), (3, .ref (mk)), (4, .int (v)), (5, .int (te)), (6, .int (pe))] → W p l e ({ frames := 7, cells := 0, slots := 0, locals := 170 }) s m ([.ref (t), .ref (u), .ref (w), .ref (mk), .int (v), .int (te), .int (pe)] : List Value).toArray below meth c H9 locs9 0 0 (MQ below (hp_QI D cs B (fun r V' n' => n = n' ∧ hq_P cs G (fun g => g.1 == 5 || g.1 == 7 || g.1 == 8 || g.1 == 13) V V' ∧ (∃ (e_bk1 : Value) (e_an1 : Value) (e_mk1 : Value) (e_fd1 : Int32) (e_sz1 : Int32), V' t = some (.inr (1, [.ref (e_be), .ref (e_tr), .int (e_fd1), .ref (e_st), .ref (e_en), .ref (e_wo), e_bk1, e_an1, e_mk1, .int (e_sz1), .ref (e_ki), .ref (e_mi), .ref (e_ta)])) ∧ (0 ≤ e_fd1.toInt ∧ e_fd1.toInt ≤ 1) ∧ (0 ≤ e_sz1.toInt ∧ e_sz1.toInt ≤ 2)) ∧ (0 ≤ r.toInt ∧ r.toInt ≤ 1))) ([.ref (t), .ref (u), .ref (w), .ref (mk), .int (v), .int (te), .int (pe)] : List Value).toArray s 0 0 (hp_F B)) (F0 m 117 ls []) from lp117 _ _ _ _ ls (-2) (f9) rfl hZ hP ho126 (by omega) (by omega) (by omega) (lv_sub hl [0, 1, 2, 3, 4, 5, 6, 7, 8] rfl)
        intro k9
        induction k9 using Nat.strongRecOn with
        | _ k9 ih117 =>
          intro V9 H9 locs9 ls j f8 hk117 hZ hP ho136 hv137 hv138 hv139 hl
          have hb_j := hq_rng j
          have hb_f8 := hq_rng f8
          have hP_117 := hP
          refine lv_iload hx hb dX1_explain_117 (lv_at hl 0 rfl) ?_
          refine lv_bipush (v := 60) hx hb dX1_explain_119 (by decide) ?_
          refine lv_icmp_gt (tgt := 150) hx hb dX1_explain_121 (by decide) (fun c140 => ?_) (fun c140 => ?_)
          · have c140 : (60 : Int) < (j).toInt := hq_lti.mp c140
            obtain ⟨y141, ey142⟩ : ∃ y : Int32, y = i + (1) := ⟨_, rfl⟩
            obtain ⟨k143, hk144, b145, b146⟩ := hq_add (i) (1)
            rw [← ey142] at hk144 b145 b146
            have hk144 : (y141).toInt = (i).toInt + (1) + k143 * 4294967296 := hk144
            refine lv_iinc (v := y141) (lv' := [(7, .int (y141)), (8, .int (j)), (0, .ref (t)), (1, .ref (u)), (2, .ref (w)), (3, .ref (mk)), (4, .int (v)), (5, .int (te)), (6, .int (pe))]) hx hb dX1_explain_150 hl (k := 1) rfl (by rw [ey142]; rfl) (by decide) rfl (fun ls hl => ?_)
            refine lv_goto (tgt := 90) hx hb dX1_explain_153 (by decide) ?_
            exact ih90 _ (by omega) _ _ _ ls (y141) (f8) rfl hZ hP ho136 (by omega) (by omega) (by omega) (lv_sub hl [0, 2, 3, 4, 5, 6, 7, 8] rfl)
          · have c140 : ¬ (60 : Int) < (j).toInt := fun h9 => c140 (hq_lti.mpr h9)
            refine lv_aload_n hx hb dX1_explain_124 rfl (lv_at hl 2 rfl) ?_
            refine lv_iload hx hb dX1_explain_125 (lv_at hl 0 rfl) ?_
            refine hp_calli (hp_runV (As := [.int (j)]) (rest := []) hx hb hml hown hts (t_X1_putEnding l D cs B G  V9 n hP.1 _ (t) h_t (j) ho136 h_e_be h_e_tr h_e_st h_e_en h_e_wo h_u h_w h_mk h_e_ki h_e_mi h_e_ta (by omega) (by omega) ) hZ ho136 cv_X1_87 rfl rfl ⟨Nat.le_of_ble_eq_true rfl, Nat.le_of_ble_eq_true rfl⟩ rfl hl.1 rfl (Nat.le_of_ble_eq_true rfl) dX1_explain_127 ⟨(Nat.le_of_ble_eq_true rfl), (Nat.le_of_ble_eq_true rfl)⟩) hZ (fun r150 V147 n148 _ _ hw149 hZ => ?_)
            obtain ⟨rfl, hq151, ho153, hr152⟩ := hw149
            have hP := hP.trans hq151 (by intro g h; simp_all)
            have b154 := hq_rng r150
            refine lv_if_eq (tgt := 144) hx hb dX1_explain_130 (by decide) (fun c155 => ?_) (fun c155 => ?_)
            · have c155 : (r150).toInt = (0 : Int) := hq_eqi.mp c155
              obtain ⟨y156, ey157⟩ : ∃ y : Int32, y = j + (1) := ⟨_, rfl⟩
              obtain ⟨k158, hk159, b160, b161⟩ := hq_add (j) (1)
              rw [← ey157] at hk159 b160 b161
              have hk159 : (y156).toInt = (j).toInt + (1) + k158 * 4294967296 := hk159
              refine lv_iinc (v := y156) (lv' := [(8, .int (y156)), (7, .int (i)), (0, .ref (t)), (1, .ref (u)), (2, .ref (w)), (3, .ref (mk)), (4, .int (v)), (5, .int (te)), (6, .int (pe))]) hx hb dX1_explain_144 hl (k := 0) rfl (by rw [ey157]; rfl) (by decide) rfl (fun ls hl => ?_)
              refine lv_goto (tgt := 117) hx hb dX1_explain_147 (by decide) ?_
              exact ih117 _ (by omega) _ _ _ ls (y156) (f8) rfl hZ hP ho153 (by omega) (by omega) (by omega) (lv_sub hl [0, 1, 2, 3, 4, 5, 6, 7, 8] rfl)
            · have c155 : ¬ (r150).toInt = (0 : Int) := fun h9 => c155 (hq_eqi.mpr h9)
              refine lv_aload_n hx hb dX1_explain_133 rfl (lv_at hl 2 rfl) ?_
              refine hp_calli (hp_runV (As := []) (rest := []) hx hb hml hown hts (t_X1_isBetter l D cs B G  V147 n hP.1  (t) h_t ho153 h_e_be h_e_tr h_e_st h_e_en h_e_wo h_e_ki h_e_mi h_e_ta (by omega) (by omega) ) hZ ho153 cv_X1_91 rfl rfl ⟨Nat.le_of_ble_eq_true rfl, Nat.le_of_ble_eq_true rfl⟩ rfl hl.1 rfl (Nat.le_of_ble_eq_true rfl) dX1_explain_134 ⟨(Nat.le_of_ble_eq_true rfl), (Nat.le_of_ble_eq_true rfl)⟩) hZ (fun r165 V162 n163 _ _ hw164 hZ => ?_)
              obtain ⟨rfl, hq166, ho168, hr167⟩ := hw164
              have hP := hP.trans hq166 (fun _ _ => rfl)
              have b169 := hq_rng r165
              refine lv_if_eq (tgt := 144) hx hb dX1_explain_137 (by decide) (fun c170 => ?_) (fun c170 => ?_)
              · have c170 : (r165).toInt = (0 : Int) := hq_eqi.mp c170
                obtain ⟨y171, ey172⟩ : ∃ y : Int32, y = j + (1) := ⟨_, rfl⟩
                obtain ⟨k173, hk174, b175, b176⟩ := hq_add (j) (1)
                rw [← ey172] at hk174 b175 b176
                have hk174 : (y171).toInt = (j).toInt + (1) + k173 * 4294967296 := hk174
                refine lv_iinc (v := y171) (lv' := [(8, .int (y171)), (7, .int (i)), (0, .ref (t)), (1, .ref (u)), (2, .ref (w)), (3, .ref (mk)), (4, .int (v)), (5, .int (te)), (6, .int (pe))]) hx hb dX1_explain_144 hl (k := 0) rfl (by rw [ey172]; rfl) (by decide) rfl (fun ls hl => ?_)
                refine lv_goto (tgt := 117) hx hb dX1_explain_147 (by decide) ?_
                exact ih117 _ (by omega) _ _ _ ls (y171) (f8) rfl hZ hP ho168 (by omega) (by omega) (by omega) (lv_sub hl [0, 1, 2, 3, 4, 5, 6, 7, 8] rfl)
              · have c170 : ¬ (r165).toInt = (0 : Int) := fun h9 => c170 (hq_eqi.mpr h9)
                refine lv_aload_n hx hb dX1_explain_140 rfl (lv_at hl 2 rfl) ?_
                refine hp_callv (hp_runV (As := []) (rest := []) hx hb hml hown hts (t_X1_trySounds l D cs B G  V162 n hP.1 _ (t) h_t ho168 h_e_be h_e_tr h_e_st h_e_en h_e_wo h_u h_w h_mk h_e_ki h_e_mi h_e_ta (by omega) (by omega) ) hZ ho168 cv_X1_95 rfl rfl ⟨Nat.le_of_ble_eq_true rfl, Nat.le_of_ble_eq_true rfl⟩ rfl hl.1 rfl (Nat.le_of_ble_eq_true rfl) dX1_explain_141 ⟨(Nat.le_of_ble_eq_true rfl), (Nat.le_of_ble_eq_true rfl)⟩) hZ (fun V177 n178 _ _ hw179 hZ => ?_)
                obtain ⟨rfl, hq181, ⟨z183, ho184, hi185⟩⟩ := hw179
                have hP := hP.trans hq181 (by intro g h; simp_all)
                have b186 := hq_rng z183
                obtain ⟨y187, ey188⟩ : ∃ y : Int32, y = j + (1) := ⟨_, rfl⟩
                obtain ⟨k189, hk190, b191, b192⟩ := hq_add (j) (1)
                rw [← ey188] at hk190 b191 b192
                have hk190 : (y187).toInt = (j).toInt + (1) + k189 * 4294967296 := hk190
                refine lv_iinc (v := y187) (lv' := [(8, .int (y187)), (7, .int (i)), (0, .ref (t)), (1, .ref (u)), (2, .ref (w)), (3, .ref (mk)), (4, .int (v)), (5, .int (te)), (6, .int (pe))]) hx hb dX1_explain_144 hl (k := 0) rfl (by rw [ey188]; rfl) (by decide) rfl (fun ls hl => ?_)
                refine lv_goto (tgt := 117) hx hb dX1_explain_147 (by decide) ?_
                exact ih117 _ (by omega) _ _ _ ls (y187) (z183) rfl hZ hP ho184 (by omega) (by omega) (by omega) (lv_sub hl [0, 1, 2, 3, 4, 5, 6, 7, 8] rfl)

theorem ac_nat : Cond.native arraycopyName ∈ TBG := TBG_mem (List.mem_of_getElem? (i := 548) (by decide +kernel)) (by decide +kernel)
theorem ac_stat : Cond.static arraycopyName ∈ TBG := TBG_mem (List.mem_of_getElem? (i := 547) (by decide +kernel)) (by decide +kernel)
theorem ac_sys : Cond.initialized "java/lang/System" ∈ TBG := TBG_mem (List.mem_of_getElem? (i := 22) (by decide +kernel)) (by decide +kernel)

set_option maxHeartbeats 4000000 in
set_option maxRecDepth 100000 in
theorem t_X9_clear (l : Launch) (D : va_G) (cs : Nat → ClassId) (B : Nat) (G : hq_G) (ok : Nat × Nat → Bool) (V : hp_V) (n : Nat) (hI : hq_I cs G V) (R : Nat) (t : Nat) (h_t : G t = some (0, R, 0, 0)) (hg0 : ok (hq_grp (0, R, 0, 0)) = true) : hp_M l yX9_clear cX9_clear 1 none ({ frames := 1, cells := 0, slots := 0, locals := 21 }) D cs B V n [.ref (t)] (hp_QV D cs B (fun V' n' => n = n' ∧ hq_P cs G ok V V')) 0 0 := by
  refine hp_walk (R0 := RX9) (by decide) rfl ?_ (Nat.le_of_ble_eq_true rfl)
  intro p e s m below meth c ls hx hb hr hts hown hlocks hin hml hZ hl
  have hP : hq_P cs G ok V V := hq_P.rf hI
  have hl : lv_has ls 1 [(0, .ref (t))] := hl
  refine lv_aload_n hx hb dX9_clear_0 rfl (lv_at hl 0 rfl) ?_
  refine lv_iconst (v := 0) hx hb dX9_clear_1 (by decide) ?_
  obtain ⟨u2, z3, eV1, hu4, h5, h6, h7⟩ := hq_o0 hP.1 h_t
  refine hp_put hx hb hts hown hZ eV1 fp_X9_21 rfl rfl (Nat.le_of_ble_eq_true rfl) dX9_clear_2 (fun V8 _ _ e9 o10 hZ => ?_)
  have e9 : V8 (t) = some (.inr (9, [.ref (u2), .int (0)])) := e9
  have hP := hP.put h_t e9 o10 (hq_c0 hu4 (show 0 ≤ (0 : Int) by omega) (show (0 : Int) ≤ (R : Nat) by omega) (by omega) (by first | rfl | omega)) hg0
  exact hp_vret hx hb hr hlocks hZ ⟨rfl, hP⟩ dX9_clear_5

set_option maxHeartbeats 4000000 in
set_option maxRecDepth 100000 in
theorem t_X9_at (l : Launch) (D : va_G) (cs : Nat → ClassId) (B : Nat) (G : hq_G) (V : hp_V) (n : Nat) (hI : hq_I cs G V) (R : Nat) (t : Nat) (h_t : G t = some (0, R, 0, 0)) (i : Int32) : hp_M l yX9_at cX9_at 2 (some .int) ({ frames := 1, cells := 0, slots := 0, locals := 21 }) D cs B V n [.ref (t), .int (i)] (hp_QI D cs B (fun r V' n' => n = n' ∧ hq_P cs G (fun _ => false) V V' ∧ (r.toInt = -1 ∨ (0 ≤ i.toInt ∧ i.toInt < R)))) 0 0 := by
  refine hp_walk (R0 := RX9) (by decide) rfl ?_ (Nat.le_of_ble_eq_true rfl)
  intro p e s m below meth c ls hx hb hr hts hown hlocks hin hml hZ hl
  have hP : hq_P cs G (fun _ => false) V V := hq_P.rf hI
  have hl : lv_has ls 2 [(0, .ref (t)), (1, .int (i))] := hl
  have hb_i := hq_rng i
  refine lv_iload_n hx hb dX9_at_0 rfl (lv_at hl 1 rfl) ?_
  refine lv_if_lt (tgt := 25) hx hb dX9_at_1 (by decide) (fun c1 => ?_) (fun c1 => ?_)
  · have c1 : (i).toInt < (0 : Int) := hq_lti.mp c1
    refine lv_iconst (v := -1) hx hb dX9_at_25 (by decide) ?_
    exact hp_iret hx hb hr hlocks hZ ⟨rfl, hP, (Or.inl (by decide))⟩ dX9_at_26
  · have c1 : ¬ (i).toInt < (0 : Int) := fun h9 => c1 (hq_lti.mpr h9)
    refine lv_iload_n hx hb dX9_at_4 rfl (lv_at hl 1 rfl) ?_
    refine lv_aload_n hx hb dX9_at_5 rfl (lv_at hl 0 rfl) ?_
    obtain ⟨u3, z4, eV2, hu5, h6, h7, h8⟩ := hq_o0 hP.1 h_t
    refine hp_get (v := .int (z4)) hx hb hts hown hZ eV2 fl_X9_21 rfl dX9_at_6 ?_
    refine lv_icmp_ge (tgt := 25) hx hb dX9_at_9 (by decide) (fun c9 => ?_) (fun c9 => ?_)
    · have c9 : (z4).toInt ≤ (i).toInt := hq_lei.mp c9
      refine lv_iconst (v := -1) hx hb dX9_at_25 (by decide) ?_
      exact hp_iret hx hb hr hlocks hZ ⟨rfl, hP, (Or.inl (by decide))⟩ dX9_at_26
    · have c9 : ¬ (z4).toInt ≤ (i).toInt := fun h9 => c9 (hq_lei.mpr h9)
      refine lv_aload_n hx hb dX9_at_12 rfl (lv_at hl 0 rfl) ?_
      refine hp_get (v := .ref (u3)) hx hb hts hown hZ eV2 fl_X9_15 rfl dX9_at_13 ?_
      refine lv_iload_n hx hb dX9_at_16 rfl (lv_at hl 1 rfl) ?_
      obtain ⟨hN12, g11, eV10, hf13⟩ := hq_o1 hP.1 hu5
      refine hp_bald hx hb hZ eV10 (hq_in (by omega) (by omega)) dX9_at_17 ?_
      refine lv_topi (fun y14 ey15 => ?_)
      have b16 := hq_rng y14
      refine lv_sipush (v := 255) hx hb dX9_at_18 (by decide) ?_
      refine lv_iand hx hb dX9_at_21 ?_
      refine lv_topi (fun y17 ey18 => ?_)
      have b19 := hq_rng y17
      refine lv_goto (tgt := 26) hx hb dX9_at_22 (by decide) ?_
      exact hp_iret hx hb hr hlocks hZ ⟨rfl, hP, (by omega)⟩ dX9_at_26

set_option maxHeartbeats 4000000 in
set_option maxRecDepth 100000 in
theorem t_X9_add (l : Launch) (D : va_G) (cs : Nat → ClassId) (B : Nat) (G : hq_G) (ok : Nat × Nat → Bool) (V : hp_V) (n : Nat) (hI : hq_I cs G V) (R : Nat) (t : Nat) (h_t : G t = some (0, R, 0, 0)) (k : Int32) (hg0 : ok (hq_grp (0, R, 0, 0)) = true) (hg1 : ok (hq_grp (1, R, 0, 0)) = true) : hp_M l yX9_add cX9_add 2 (some .boolean) ({ frames := 1, cells := 0, slots := 0, locals := 21 }) D cs B V n [.ref (t), .int (k)] (hp_QI D cs B (fun r V' n' => n = n' ∧ hq_P cs G ok V V' ∧ (0 ≤ r.toInt ∧ r.toInt ≤ 1))) 0 0 := by
  refine hp_walk (R0 := RX9) (by decide) rfl ?_ (Nat.le_of_ble_eq_true rfl)
  intro p e s m below meth c ls hx hb hr hts hown hlocks hin hml hZ hl
  have hP : hq_P cs G ok V V := hq_P.rf hI
  have hl : lv_has ls 2 [(0, .ref (t)), (1, .int (k))] := hl
  have hb_k := hq_rng k
  refine lv_aload_n hx hb dX9_add_0 rfl (lv_at hl 0 rfl) ?_
  obtain ⟨u2, z3, eV1, hu4, h5, h6, h7⟩ := hq_o0 hP.1 h_t
  refine hp_get (v := .int (z3)) hx hb hts hown hZ eV1 fl_X9_21 rfl dX9_add_1 ?_
  refine lv_aload_n hx hb dX9_add_4 rfl (lv_at hl 0 rfl) ?_
  refine hp_get (v := .ref (u2)) hx hb hts hown hZ eV1 fl_X9_15 rfl dX9_add_5 ?_
  obtain ⟨hN10, g9, eV8, hf11⟩ := hq_o1 hP.1 hu4
  refine hp_alen (v := nI (R)) hx hb hZ 0 eV8 rfl rfl dX9_add_8 ?_
  refine lv_topi (fun y12 ey13 => ?_)
  have b14 : (y12).toInt = (R : Nat) := by rw [ey13]; exact hq_nI (by omega)
  refine lv_icmp_lt (tgt := 14) hx hb dX9_add_9 (by decide) (fun c15 => ?_) (fun c15 => ?_)
  · have c15 : (z3).toInt < (y12).toInt := hq_lti.mp c15
    refine lv_aload_n hx hb dX9_add_14 rfl (lv_at hl 0 rfl) ?_
    refine hp_get (v := .ref (u2)) hx hb hts hown hZ eV1 fl_X9_15 rfl dX9_add_15 ?_
    refine lv_aload_n hx hb dX9_add_18 rfl (lv_at hl 0 rfl) ?_
    refine hp_get (v := .int (z3)) hx hb hts hown hZ eV1 fl_X9_21 rfl dX9_add_19 ?_
    refine lv_iload_n hx hb dX9_add_22 rfl (lv_at hl 1 rfl) ?_
    refine lv_i2b (v := (k).toInt8.toInt32) hx hb dX9_add_23 rfl ?_
    refine lv_topi (fun y16 ey17 => ?_)
    have b18 := hq_rng y16
    refine hp_bast hx hb hZ eV8 (hq_in (by omega) (by omega)) dX9_add_24 (fun V19 _ _ e20 o21 hZ => ?_)
    have e20 : V19 (u2) = some (.inl (cs 0, R, .inl (upd (g9) ((z3 : Int32).toNatClampNeg) ((y16 : Int32).toInt8.toInt32)))) := e20
    have hP := hP.put hu4 e20 o21 (hq_c1 (by omega) (hq_updB hf11)) hg1
    refine lv_aload_n hx hb dX9_add_25 rfl (lv_at hl 0 rfl) ?_
    refine lv_dup hx hb dX9_add_26 rfl ?_
    have fx22 : V19 (t) = some (.inr (9, [.ref (u2), .int (z3)])) := (o21 (t) (hq_tne h_t hu4 (by simp))).trans (eV1)
    refine hp_get (v := .int (z3)) hx hb hts hown hZ fx22 fl_X9_21 rfl dX9_add_27 ?_
    refine lv_iconst (v := 1) hx hb dX9_add_30 (by decide) ?_
    refine lv_iadd hx hb dX9_add_31 ?_
    refine lv_topi (fun y23 ey24 => ?_)
    obtain ⟨k25, hk26, b27, b28⟩ := hq_add (z3) (1)
    rw [← ey24] at hk26 b27 b28
    have hk26 : (y23).toInt = (z3).toInt + (1 : Int) + k25 * 4294967296 := hk26
    refine hp_put hx hb hts hown hZ fx22 fp_X9_21 rfl rfl (Nat.le_of_ble_eq_true rfl) dX9_add_32 (fun V29 _ _ e30 o31 hZ => ?_)
    have e30 : V29 (t) = some (.inr (9, [.ref (u2), .int (y23)])) := e30
    have hP := hP.put h_t e30 o31 (hq_c0 hu4 (show 0 ≤ (y23).toInt by omega) (show (y23).toInt ≤ (R : Nat) by omega) (by omega) (by first | rfl | omega)) hg0
    refine lv_iconst (v := 1) hx hb dX9_add_35 (by decide) ?_
    exact hp_zret hx hb hr rfl hlocks hZ ⟨rfl, hP, (by decide)⟩ dX9_add_36
  · have c15 : ¬ (z3).toInt < (y12).toInt := fun h9 => c15 (hq_lti.mpr h9)
    refine lv_iconst (v := 0) hx hb dX9_add_12 (by decide) ?_
    exact hp_zret hx hb hr rfl hlocks hZ ⟨rfl, hP, (by decide)⟩ dX9_add_13

set_option maxHeartbeats 4000000 in
set_option maxRecDepth 100000 in
theorem t_X9_addPart (l : Launch) (D : va_G) (cs : Nat → ClassId) (B : Nat) (G : hq_G) (ok : Nat × Nat → Bool) (V : hp_V) (n : Nat) (hI : hq_I cs G V) (R R1 : Nat) (t : Nat) (h_t : G t = some (0, R, 0, 0)) (u : Nat) (h_u : G u = some (0, R1, 0, 0)) (i : Int32) (j : Int32) (hg0 : ok (hq_grp (0, R, 0, 0)) = true) (hg1 : ok (hq_grp (1, R, 0, 0)) = true) (hj : -1 ≤ j.toInt) : hp_M l yX9_addPart cX9_addPart 5 (some .boolean) ({ frames := 1, cells := 0, slots := 0, locals := 21 }) D cs B V n [.ref (t), .ref (u), .int (i), .int (j)] (hp_QI D cs B (fun r V' n' => n = n' ∧ hq_P cs G ok V V' ∧ (0 ≤ r.toInt ∧ r.toInt ≤ 1))) 0 0 := by
  refine hp_walk (R0 := RX9) (by decide) rfl ?_ (Nat.le_of_ble_eq_true rfl)
  intro p e s m below meth c ls hx hb hr hts hown hlocks hin hml hZ hl
  have hP : hq_P cs G ok V V := hq_P.rf hI
  have hl : lv_has ls 5 [(0, .ref (t)), (1, .ref (u)), (2, .int (i)), (3, .int (j))] := hl
  have hb_i := hq_rng i
  have hb_j := hq_rng j
  refine lv_iload_n hx hb dX9_addPart_0 rfl (lv_at hl 3 rfl) ?_
  refine lv_iload_n hx hb dX9_addPart_1 rfl (lv_at hl 2 rfl) ?_
  refine lv_isub hx hb dX9_addPart_2 ?_
  refine lv_topi (fun y1 ey2 => ?_)
  obtain ⟨k3, hk4, b5, b6⟩ := hq_sub (j) (i)
  rw [← ey2] at hk4 b5 b6
  have hk4 : (y1).toInt = (j).toInt - (i).toInt + k3 * 4294967296 := hk4
  refine lv_istore (lv' := [(4, .int (y1)), (0, .ref (t)), (1, .ref (u)), (2, .int (i)), (3, .int (j))]) hx hb dX9_addPart_3 hl (by decide) rfl (fun ls hl => ?_)
  refine lv_iload_n hx hb dX9_addPart_5 rfl (lv_at hl 3 rfl) ?_
  refine lv_if_lt (tgt := 37) hx hb dX9_addPart_6 (by decide) (fun c7 => ?_) (fun c7 => ?_)
  · have c7 : (i).toInt < (0 : Int) := hq_lti.mp c7
    refine lv_iconst (v := 0) hx hb dX9_addPart_37 (by decide) ?_
    exact hp_zret hx hb hr rfl hlocks hZ ⟨rfl, hP, (by decide)⟩ dX9_addPart_38
  · have c7 : ¬ (i).toInt < (0 : Int) := fun h9 => c7 (hq_lti.mpr h9)
    refine lv_iload hx hb dX9_addPart_9 (lv_at hl 0 rfl) ?_
    refine lv_if_lt (tgt := 37) hx hb dX9_addPart_11 (by decide) (fun c8 => ?_) (fun c8 => ?_)
    · have c8 : (y1).toInt < (0 : Int) := hq_lti.mp c8
      refine lv_iconst (v := 0) hx hb dX9_addPart_37 (by decide) ?_
      exact hp_zret hx hb hr rfl hlocks hZ ⟨rfl, hP, (by decide)⟩ dX9_addPart_38
    · have c8 : ¬ (y1).toInt < (0 : Int) := fun h9 => c8 (hq_lti.mpr h9)
      refine lv_iload_n hx hb dX9_addPart_14 rfl (lv_at hl 4 rfl) ?_
      refine lv_aload_n hx hb dX9_addPart_15 rfl (lv_at hl 2 rfl) ?_
      obtain ⟨u10, z11, eV9, hu12, h13, h14, h15⟩ := hq_o0 hP.1 h_u
      refine hp_get (v := .int (z11)) hx hb hts hown hZ eV9 fl_X9_21 rfl dX9_addPart_16 ?_
      refine lv_icmp_gt (tgt := 37) hx hb dX9_addPart_19 (by decide) (fun c16 => ?_) (fun c16 => ?_)
      · have c16 : (z11).toInt < (j).toInt := hq_lti.mp c16
        refine lv_iconst (v := 0) hx hb dX9_addPart_37 (by decide) ?_
        exact hp_zret hx hb hr rfl hlocks hZ ⟨rfl, hP, (by decide)⟩ dX9_addPart_38
      · have c16 : ¬ (z11).toInt < (j).toInt := fun h9 => c16 (hq_lti.mpr h9)
        refine lv_iload hx hb dX9_addPart_22 (lv_at hl 0 rfl) ?_
        refine lv_aload_n hx hb dX9_addPart_24 rfl (lv_at hl 1 rfl) ?_
        obtain ⟨u18, z19, eV17, hu20, h21, h22, h23⟩ := hq_o0 hP.1 h_t
        refine hp_get (v := .ref (u18)) hx hb hts hown hZ eV17 fl_X9_15 rfl dX9_addPart_25 ?_
        obtain ⟨hN26, g25, eV24, hf27⟩ := hq_o1 hP.1 hu20
        refine hp_alen (v := nI (R)) hx hb hZ 0 eV24 rfl rfl dX9_addPart_28 ?_
        refine lv_topi (fun y28 ey29 => ?_)
        have b30 : (y28).toInt = (R : Nat) := by rw [ey29]; exact hq_nI (by omega)
        refine lv_aload_n hx hb dX9_addPart_29 rfl (lv_at hl 1 rfl) ?_
        refine hp_get (v := .int (z19)) hx hb hts hown hZ eV17 fl_X9_21 rfl dX9_addPart_30 ?_
        refine lv_isub hx hb dX9_addPart_33 ?_
        refine lv_topi (fun y31 ey32 => ?_)
        obtain ⟨k33, hk34, b35, b36⟩ := hq_sub (y28) (z19)
        rw [← ey32] at hk34 b35 b36
        have hk34 : (y31).toInt = (y28).toInt - (z19).toInt + k33 * 4294967296 := hk34
        refine lv_icmp_le (tgt := 39) hx hb dX9_addPart_34 (by decide) (fun c37 => ?_) (fun c37 => ?_)
        · have c37 : (y1).toInt ≤ (y31).toInt := hq_lei.mp c37
          refine lv_aload_n hx hb dX9_addPart_39 rfl (lv_at hl 2 rfl) ?_
          refine hp_get (v := .ref (u10)) hx hb hts hown hZ eV9 fl_X9_15 rfl dX9_addPart_40 ?_
          refine lv_iload_n hx hb dX9_addPart_43 rfl (lv_at hl 3 rfl) ?_
          refine lv_aload_n hx hb dX9_addPart_44 rfl (lv_at hl 1 rfl) ?_
          refine hp_get (v := .ref (u18)) hx hb hts hown hZ eV17 fl_X9_15 rfl dX9_addPart_45 ?_
          refine lv_aload_n hx hb dX9_addPart_48 rfl (lv_at hl 1 rfl) ?_
          refine hp_get (v := .int (z19)) hx hb hts hown hZ eV17 fl_X9_21 rfl dX9_addPart_49 ?_
          refine lv_iload hx hb dX9_addPart_52 (lv_at hl 0 rfl) ?_
          obtain ⟨hN40, g39, eV38, hf41⟩ := hq_o1 hP.1 hu12
          have hn42 : (i : Int32).toNatClampNeg + (y1 : Int32).toNatClampNeg ≤ R1 := by have h8 := hq_nn (z := i) (by omega); have h9 := hq_nn (z := y1) (by omega); omega
          refine hq_copy hx hb (hml.trans hl.1.symm) hts hown hZ lk_X9_29 ac_nat ac_stat ac_sys eV38 eV24 (by omega) (by omega) (by omega) (by omega) (by omega) hf41 (Nat.le_of_ble_eq_true rfl) (by decide) dX9_addPart_54 (fun V43 _ _ e44 o45 hZ => ?_)
          have e44 : V43 (u18) = some (.inl (cs 0, R, .inl (va_cpy (g39) (g25) (i : Int32).toNatClampNeg (z19 : Int32).toNatClampNeg (y1 : Int32).toNatClampNeg))) := e44
          have hP := hP.put hu20 e44 o45 (hq_c1 (by omega) (hq_cpB hf41 hf27 hn42)) hg1
          refine lv_aload_n hx hb dX9_addPart_57 rfl (lv_at hl 1 rfl) ?_
          refine lv_dup hx hb dX9_addPart_58 rfl ?_
          have fx46 : V43 (t) = some (.inr (9, [.ref (u18), .int (z19)])) := (o45 (t) (hq_tne h_t hu20 (by simp))).trans (eV17)
          refine hp_get (v := .int (z19)) hx hb hts hown hZ fx46 fl_X9_21 rfl dX9_addPart_59 ?_
          refine lv_iload hx hb dX9_addPart_62 (lv_at hl 0 rfl) ?_
          refine lv_iadd hx hb dX9_addPart_64 ?_
          refine lv_topi (fun y47 ey48 => ?_)
          obtain ⟨k49, hk50, b51, b52⟩ := hq_add (z19) (y1)
          rw [← ey48] at hk50 b51 b52
          have hk50 : (y47).toInt = (z19).toInt + (y1).toInt + k49 * 4294967296 := hk50
          refine hp_put hx hb hts hown hZ fx46 fp_X9_21 rfl rfl (Nat.le_of_ble_eq_true rfl) dX9_addPart_65 (fun V53 _ _ e54 o55 hZ => ?_)
          have e54 : V53 (t) = some (.inr (9, [.ref (u18), .int (y47)])) := e54
          have hP := hP.put h_t e54 o55 (hq_c0 hu20 (show 0 ≤ (y47).toInt by omega) (show (y47).toInt ≤ (R : Nat) by omega) (by omega) (by first | rfl | omega)) hg0
          refine lv_iconst (v := 1) hx hb dX9_addPart_68 (by decide) ?_
          exact hp_zret hx hb hr rfl hlocks hZ ⟨rfl, hP, (by decide)⟩ dX9_addPart_69
        · have c37 : ¬ (y1).toInt ≤ (y31).toInt := fun h9 => c37 (hq_lei.mpr h9)
          refine lv_iconst (v := 0) hx hb dX9_addPart_37 (by decide) ?_
          exact hp_zret hx hb hr rfl hlocks hZ ⟨rfl, hP, (by decide)⟩ dX9_addPart_38

set_option maxHeartbeats 4000000 in
set_option maxRecDepth 100000 in
theorem t_X9_addAll (l : Launch) (D : va_G) (cs : Nat → ClassId) (B : Nat) (G : hq_G) (ok : Nat × Nat → Bool) (V : hp_V) (n : Nat) (hI : hq_I cs G V) (R R1 : Nat) (t : Nat) (h_t : G t = some (0, R, 0, 0)) (u : Nat) (h_u : G u = some (0, R1, 0, 0)) (hg0 : ok (hq_grp (0, R, 0, 0)) = true) (hg1 : ok (hq_grp (1, R, 0, 0)) = true) : hp_M l yX9_addAll cX9_addAll 2 (some .boolean) ({ frames := 2, cells := 0, slots := 0, locals := 45 }) D cs B V n [.ref (t), .ref (u)] (hp_QI D cs B (fun r V' n' => n = n' ∧ hq_P cs G ok V V' ∧ (0 ≤ r.toInt ∧ r.toInt ≤ 1))) 0 0 := by
  refine hp_walk (R0 := RX9) (by decide) rfl ?_ (Nat.le_of_ble_eq_true rfl)
  intro p e s m below meth c ls hx hb hr hts hown hlocks hin hml hZ hl
  have hP : hq_P cs G ok V V := hq_P.rf hI
  have hl : lv_has ls 2 [(0, .ref (t)), (1, .ref (u))] := hl
  refine lv_aload_n hx hb dX9_addAll_0 rfl (lv_at hl 0 rfl) ?_
  refine lv_aload_n hx hb dX9_addAll_1 rfl (lv_at hl 1 rfl) ?_
  refine lv_iconst (v := 0) hx hb dX9_addAll_2 (by decide) ?_
  refine lv_aload_n hx hb dX9_addAll_3 rfl (lv_at hl 1 rfl) ?_
  obtain ⟨u2, z3, eV1, hu4, h5, h6, h7⟩ := hq_o0 hP.1 h_u
  refine hp_get (v := .int (z3)) hx hb hts hown hZ eV1 fl_X9_21 rfl dX9_addAll_4 ?_
  have hl14 : (0 : Int32).toInt = 0 := by decide
  obtain ⟨u16, z17, eV15, hu18, h19, h20, h21⟩ := hq_o0 hP.1 h_t
  refine hp_calli (hp_runV (As := [.ref (u), .int (0), .int (z3)]) (rest := []) hx hb hml hown hts (t_X9_addPart l D cs B G ok V n hP.1 R R1 (t) h_t (u) h_u (0) (z3) hg0 hg1 (by omega)) hZ eV15 cv_X9_35 rfl rfl ⟨Nat.le_of_ble_eq_true rfl, Nat.le_of_ble_eq_true rfl⟩ rfl hl.1 rfl (Nat.le_of_ble_eq_true rfl) dX9_addAll_7 ⟨(Nat.le_of_ble_eq_true rfl), (Nat.le_of_ble_eq_true rfl)⟩) hZ (fun r11 V8 n9 _ _ hw10 hZ => ?_)
  obtain ⟨rfl, hq12, hr13⟩ := hw10
  have hP := hP.trans hq12 (fun _ h => h)
  have b22 := hq_rng r11
  exact hp_zret hx hb hr (hq_nzi (by omega) (by omega)) hlocks hZ ⟨rfl, hP, (by constructor <;> omega)⟩ dX9_addAll_10

set_option maxHeartbeats 4000000 in
set_option maxRecDepth 100000 in
theorem t_X9_set (l : Launch) (D : va_G) (cs : Nat → ClassId) (B : Nat) (G : hq_G) (ok : Nat × Nat → Bool) (V : hp_V) (n : Nat) (hI : hq_I cs G V) (R R1 : Nat) (t : Nat) (h_t : G t = some (0, R, 0, 0)) (u : Nat) (h_u : G u = some (0, R1, 0, 0)) (hg0 : ok (hq_grp (0, R, 0, 0)) = true) (hg1 : ok (hq_grp (1, R, 0, 0)) = true) : hp_M l yX9_set cX9_set 2 none ({ frames := 2, cells := 0, slots := 0, locals := 45 }) D cs B V n [.ref (t), .ref (u)] (hp_QV D cs B (fun V' n' => n = n' ∧ hq_P cs G ok V V')) 0 0 := by
  refine hp_walk (R0 := RX9) (by decide) rfl ?_ (Nat.le_of_ble_eq_true rfl)
  intro p e s m below meth c ls hx hb hr hts hown hlocks hin hml hZ hl
  have hP : hq_P cs G ok V V := hq_P.rf hI
  have hl : lv_has ls 2 [(0, .ref (t)), (1, .ref (u))] := hl
  refine lv_aload_n hx hb dX9_set_0 rfl (lv_at hl 0 rfl) ?_
  refine lv_iconst (v := 0) hx hb dX9_set_1 (by decide) ?_
  obtain ⟨u2, z3, eV1, hu4, h5, h6, h7⟩ := hq_o0 hP.1 h_t
  refine hp_put hx hb hts hown hZ eV1 fp_X9_21 rfl rfl (Nat.le_of_ble_eq_true rfl) dX9_set_2 (fun V8 _ _ e9 o10 hZ => ?_)
  have e9 : V8 (t) = some (.inr (9, [.ref (u2), .int (0)])) := e9
  have hP := hP.put h_t e9 o10 (hq_c0 hu4 (show 0 ≤ (0 : Int) by omega) (show (0 : Int) ≤ (R : Nat) by omega) (by omega) (by first | rfl | omega)) hg0
  refine lv_aload_n hx hb dX9_set_5 rfl (lv_at hl 0 rfl) ?_
  refine lv_aload_n hx hb dX9_set_6 rfl (lv_at hl 1 rfl) ?_
  refine lv_iconst (v := 0) hx hb dX9_set_7 (by decide) ?_
  refine lv_aload_n hx hb dX9_set_8 rfl (lv_at hl 1 rfl) ?_
  obtain ⟨u12, z13, eV11, hu14, h15, h16, h17⟩ := hq_o0 hP.1 h_u
  refine hp_get (v := .int (z13)) hx hb hts hown hZ eV11 fl_X9_21 rfl dX9_set_9 ?_
  have hl24 : (0 : Int32).toInt = 0 := by decide
  refine hp_calli (hp_runV (As := [.ref (u), .int (0), .int (z13)]) (rest := []) hx hb hml hown hts (t_X9_addPart l D cs B G ok V8 n hP.1 R R1 (t) h_t (u) h_u (0) (z13) hg0 hg1 (by omega)) hZ e9 cv_X9_35 rfl rfl ⟨Nat.le_of_ble_eq_true rfl, Nat.le_of_ble_eq_true rfl⟩ rfl hl.1 rfl (Nat.le_of_ble_eq_true rfl) dX9_set_12 ⟨(Nat.le_of_ble_eq_true rfl), (Nat.le_of_ble_eq_true rfl)⟩) hZ (fun r21 V18 n19 _ _ hw20 hZ => ?_)
  obtain ⟨rfl, hq22, hr23⟩ := hw20
  have hP := hP.trans hq22 (fun _ h => h)
  have b25 := hq_rng r21
  refine lv_pop hx hb dX9_set_15 rfl ?_
  exact hp_vret hx hb hr hlocks hZ ⟨rfl, hP⟩ dX9_set_16

set_option maxHeartbeats 4000000 in
set_option maxRecDepth 100000 in
theorem t_X9_holds (l : Launch) (D : va_G) (cs : Nat → ClassId) (B : Nat) (G : hq_G) (V : hp_V) (n : Nat) (hI : hq_I cs G V) (R R1 : Nat) (t : Nat) (h_t : G t = some (0, R, 0, 0)) (u : Nat) (h_u : G u = some (0, R1, 0, 0)) (i : Int32) : hp_M l yX9_holds cX9_holds 4 (some .boolean) ({ frames := 1, cells := 0, slots := 0, locals := 21 }) D cs B V n [.ref (t), .ref (u), .int (i)] (hp_QI D cs B (fun r V' n' => n = n' ∧ hq_P cs G (fun _ => false) V V' ∧ (0 ≤ r.toInt ∧ r.toInt ≤ 1))) 0 0 := by
  refine hp_walk (R0 := RX9) (by decide) rfl ?_ (Nat.le_of_ble_eq_true rfl)
  intro p e s m below meth c ls hx hb hr hts hown hlocks hin hml hZ hl
  have hP : hq_P cs G (fun _ => false) V V := hq_P.rf hI
  have hl : lv_has ls 4 [(0, .ref (t)), (1, .ref (u)), (2, .int (i))] := hl
  have hb_i := hq_rng i
  refine lv_iload_n hx hb dX9_holds_0 rfl (lv_at hl 2 rfl) ?_
  refine lv_if_lt (tgt := 17) hx hb dX9_holds_1 (by decide) (fun c1 => ?_) (fun c1 => ?_)
  · have c1 : (i).toInt < (0 : Int) := hq_lti.mp c1
    refine lv_iconst (v := 0) hx hb dX9_holds_17 (by decide) ?_
    exact hp_zret hx hb hr rfl hlocks hZ ⟨rfl, hP, (by decide)⟩ dX9_holds_18
  · have c1 : ¬ (i).toInt < (0 : Int) := fun h9 => c1 (hq_lti.mpr h9)
    refine lv_aload_n hx hb dX9_holds_4 rfl (lv_at hl 1 rfl) ?_
    obtain ⟨u3, z4, eV2, hu5, h6, h7, h8⟩ := hq_o0 hP.1 h_u
    refine hp_get (v := .int (z4)) hx hb hts hown hZ eV2 fl_X9_21 rfl dX9_holds_5 ?_
    refine lv_aload_n hx hb dX9_holds_8 rfl (lv_at hl 0 rfl) ?_
    obtain ⟨u10, z11, eV9, hu12, h13, h14, h15⟩ := hq_o0 hP.1 h_t
    refine hp_get (v := .int (z11)) hx hb hts hown hZ eV9 fl_X9_21 rfl dX9_holds_9 ?_
    refine lv_iload_n hx hb dX9_holds_12 rfl (lv_at hl 2 rfl) ?_
    refine lv_isub hx hb dX9_holds_13 ?_
    refine lv_topi (fun y16 ey17 => ?_)
    obtain ⟨k18, hk19, b20, b21⟩ := hq_sub (z11) (i)
    rw [← ey17] at hk19 b20 b21
    have hk19 : (y16).toInt = (z11).toInt - (i).toInt + k18 * 4294967296 := hk19
    refine lv_icmp_le (tgt := 19) hx hb dX9_holds_14 (by decide) (fun c22 => ?_) (fun c22 => ?_)
    · have c22 : (z4).toInt ≤ (y16).toInt := hq_lei.mp c22
      refine lv_iconst (v := 0) hx hb dX9_holds_19 (by decide) ?_
      refine lv_istore_n (lv' := [(3, .int (0)), (0, .ref (t)), (1, .ref (u)), (2, .int (i))]) hx hb dX9_holds_20 rfl hl (by decide) rfl (fun ls hl => ?_)
      have hl23 : (0 : Int32).toInt = 0 := by decide
      suffices lp21 : ∀ (k9 : Nat) (V9 : hp_V) (H9 : Heap) (locs9 : List Loc) (ls : Array Slot) (j : Int32), (100001 - j.toInt).toNat = k9 → hp_Z D cs B s V9 H9 n locs9 → hq_P cs G (fun _ => false) V V9 → 0 ≤ j.toInt → j.toInt ≤ 100000 → lv_has ls 4 [(3, .int (j)), (0, .ref (t)), (1, .ref (u)), (2, .int (i))] → W p l e ({ frames := 1, cells := 0, slots := 0, locals := 21 }) s m ([.ref (t), .ref (u), .int (i)] : List Value).toArray below meth c H9 locs9 0 0 (MQ below (hp_QI D cs B (fun r V' n' => n = n' ∧ hq_P cs G (fun _ => false) V V' ∧ (0 ≤ r.toInt ∧ r.toInt ≤ 1))) ([.ref (t), .ref (u), .int (i)] : List Value).toArray s 0 0 (hp_F B)) (F0 m 21 ls []) from lp21 _ _ _ _ ls (0) rfl hZ hP (by omega) (by omega) (lv_sub hl [0, 1, 2, 3] rfl)
      intro k9
      induction k9 using Nat.strongRecOn with
      | _ k9 ih21 =>
        intro V9 H9 locs9 ls j  hk21 hZ hP  hv24 hv25 hl
        have hb_j := hq_rng j
        have hP_21 := hP
        refine lv_iload_n hx hb dX9_holds_21 rfl (lv_at hl 0 rfl) ?_
        refine lv_aload_n hx hb dX9_holds_22 rfl (lv_at hl 2 rfl) ?_
        have fx26 : V9 (u) = some (.inr (9, [.ref (u3), .int (z4)])) := (hP_21.2 (u) _ h_u rfl).trans (eV2)
        refine hp_get (v := .int (z4)) hx hb hts hown hZ fx26 fl_X9_21 rfl dX9_holds_23 ?_
        refine lv_icmp_ge (tgt := 54) hx hb dX9_holds_26 (by decide) (fun c27 => ?_) (fun c27 => ?_)
        · have c27 : (z4).toInt ≤ (j).toInt := hq_lei.mp c27
          refine lv_iconst (v := 1) hx hb dX9_holds_54 (by decide) ?_
          exact hp_zret hx hb hr rfl hlocks hZ ⟨rfl, hP, (by decide)⟩ dX9_holds_55
        · have c27 : ¬ (z4).toInt ≤ (j).toInt := fun h9 => c27 (hq_lei.mpr h9)
          refine lv_aload_n hx hb dX9_holds_29 rfl (lv_at hl 1 rfl) ?_
          have fx28 : V9 (t) = some (.inr (9, [.ref (u10), .int (z11)])) := (hP_21.2 (t) _ h_t rfl).trans (eV9)
          refine hp_get (v := .ref (u10)) hx hb hts hown hZ fx28 fl_X9_15 rfl dX9_holds_30 ?_
          refine lv_iload_n hx hb dX9_holds_33 rfl (lv_at hl 3 rfl) ?_
          refine lv_iload_n hx hb dX9_holds_34 rfl (lv_at hl 0 rfl) ?_
          refine lv_iadd hx hb dX9_holds_35 ?_
          refine lv_topi (fun y29 ey30 => ?_)
          obtain ⟨k31, hk32, b33, b34⟩ := hq_add (i) (j)
          rw [← ey30] at hk32 b33 b34
          have hk32 : (y29).toInt = (i).toInt + (j).toInt + k31 * 4294967296 := hk32
          obtain ⟨hN37, g36, eV35, hf38⟩ := hq_o1 hP.1 hu12
          refine hp_bald hx hb hZ eV35 (hq_in (by omega) (by omega)) dX9_holds_36 ?_
          refine lv_topi (fun y39 ey40 => ?_)
          have b41 := hq_rng y39
          refine lv_aload_n hx hb dX9_holds_37 rfl (lv_at hl 2 rfl) ?_
          refine hp_get (v := .ref (u3)) hx hb hts hown hZ fx26 fl_X9_15 rfl dX9_holds_38 ?_
          refine lv_iload_n hx hb dX9_holds_41 rfl (lv_at hl 0 rfl) ?_
          obtain ⟨hN44, g43, eV42, hf45⟩ := hq_o1 hP.1 hu5
          refine hp_bald hx hb hZ eV42 (hq_in (by omega) (by omega)) dX9_holds_42 ?_
          refine lv_topi (fun y46 ey47 => ?_)
          have b48 := hq_rng y46
          refine lv_icmp_eq (tgt := 48) hx hb dX9_holds_43 (by decide) (fun c49 => ?_) (fun c49 => ?_)
          · have c49 : (y39).toInt = (y46).toInt := hq_eqi.mp c49
            obtain ⟨y50, ey51⟩ : ∃ y : Int32, y = j + (1) := ⟨_, rfl⟩
            obtain ⟨k52, hk53, b54, b55⟩ := hq_add (j) (1)
            rw [← ey51] at hk53 b54 b55
            have hk53 : (y50).toInt = (j).toInt + (1) + k52 * 4294967296 := hk53
            refine lv_iinc (v := y50) (lv' := [(3, .int (y50)), (0, .ref (t)), (1, .ref (u)), (2, .int (i))]) hx hb dX9_holds_48 hl (k := 0) rfl (by rw [ey51]; rfl) (by decide) rfl (fun ls hl => ?_)
            refine lv_goto (tgt := 21) hx hb dX9_holds_51 (by decide) ?_
            exact ih21 _ (by omega) _ _ _ ls (y50) rfl hZ hP (by omega) (by omega) (lv_sub hl [0, 1, 2, 3] rfl)
          · have c49 : ¬ (y39).toInt = (y46).toInt := fun h9 => c49 (hq_eqi.mpr h9)
            refine lv_iconst (v := 0) hx hb dX9_holds_46 (by decide) ?_
            exact hp_zret hx hb hr rfl hlocks hZ ⟨rfl, hP, (by decide)⟩ dX9_holds_47
    · have c22 : ¬ (z4).toInt ≤ (y16).toInt := fun h9 => c22 (hq_lei.mpr h9)
      refine lv_iconst (v := 0) hx hb dX9_holds_17 (by decide) ?_
      exact hp_zret hx hb hr rfl hlocks hZ ⟨rfl, hP, (by decide)⟩ dX9_holds_18

set_option maxHeartbeats 4000000 in
set_option maxRecDepth 100000 in
theorem t_X9_same (l : Launch) (D : va_G) (cs : Nat → ClassId) (B : Nat) (G : hq_G) (V : hp_V) (n : Nat) (hI : hq_I cs G V) (R R1 : Nat) (t : Nat) (h_t : G t = some (0, R, 0, 0)) (u : Nat) (h_u : G u = some (0, R1, 0, 0)) : hp_M l yX9_same cX9_same 2 (some .boolean) ({ frames := 2, cells := 0, slots := 0, locals := 44 }) D cs B V n [.ref (t), .ref (u)] (hp_QI D cs B (fun r V' n' => n = n' ∧ hq_P cs G (fun _ => false) V V' ∧ (0 ≤ r.toInt ∧ r.toInt ≤ 1))) 0 0 := by
  refine hp_walk (R0 := RX9) (by decide) rfl ?_ (Nat.le_of_ble_eq_true rfl)
  intro p e s m below meth c ls hx hb hr hts hown hlocks hin hml hZ hl
  have hP : hq_P cs G (fun _ => false) V V := hq_P.rf hI
  have hl : lv_has ls 2 [(0, .ref (t)), (1, .ref (u))] := hl
  refine lv_aload_n hx hb dX9_same_0 rfl (lv_at hl 0 rfl) ?_
  obtain ⟨u2, z3, eV1, hu4, h5, h6, h7⟩ := hq_o0 hP.1 h_t
  refine hp_get (v := .int (z3)) hx hb hts hown hZ eV1 fl_X9_21 rfl dX9_same_1 ?_
  refine lv_aload_n hx hb dX9_same_4 rfl (lv_at hl 1 rfl) ?_
  obtain ⟨u9, z10, eV8, hu11, h12, h13, h14⟩ := hq_o0 hP.1 h_u
  refine hp_get (v := .int (z10)) hx hb hts hown hZ eV8 fl_X9_21 rfl dX9_same_5 ?_
  refine lv_icmp_ne (tgt := 24) hx hb dX9_same_8 (by decide) (fun c15 => ?_) (fun c15 => ?_)
  · have c15 : ¬ (z3).toInt = (z10).toInt := fun h9 => c15 (hq_eqi.mpr h9)
    refine lv_iconst (v := 0) hx hb dX9_same_24 (by decide) ?_
    exact hp_zret hx hb hr rfl hlocks hZ ⟨rfl, hP, (by decide)⟩ dX9_same_25
  · have c15 : (z3).toInt = (z10).toInt := hq_eqi.mp c15
    refine lv_aload_n hx hb dX9_same_11 rfl (lv_at hl 0 rfl) ?_
    refine lv_aload_n hx hb dX9_same_12 rfl (lv_at hl 1 rfl) ?_
    refine lv_iconst (v := 0) hx hb dX9_same_13 (by decide) ?_
    refine hp_calli (hp_runV (As := [.ref (u), .int (0)]) (rest := []) hx hb hml hown hts (t_X9_holds l D cs B G  V n hP.1 R R1 (t) h_t (u) h_u (0) ) hZ eV1 cv_X9_39 rfl rfl ⟨Nat.le_of_ble_eq_true rfl, Nat.le_of_ble_eq_true rfl⟩ rfl hl.1 rfl (Nat.le_of_ble_eq_true rfl) dX9_same_14 ⟨(Nat.le_of_ble_eq_true rfl), (Nat.le_of_ble_eq_true rfl)⟩) hZ (fun r19 V16 n17 _ _ hw18 hZ => ?_)
    obtain ⟨rfl, hq20, hr21⟩ := hw18
    have hP := hP.trans hq20 (fun _ _ => rfl)
    have b22 := hq_rng r19
    refine lv_if_eq (tgt := 24) hx hb dX9_same_17 (by decide) (fun c23 => ?_) (fun c23 => ?_)
    · have c23 : (r19).toInt = (0 : Int) := hq_eqi.mp c23
      refine lv_iconst (v := 0) hx hb dX9_same_24 (by decide) ?_
      exact hp_zret hx hb hr rfl hlocks hZ ⟨rfl, hP, (by decide)⟩ dX9_same_25
    · have c23 : ¬ (r19).toInt = (0 : Int) := fun h9 => c23 (hq_eqi.mpr h9)
      refine lv_iconst (v := 1) hx hb dX9_same_20 (by decide) ?_
      refine lv_goto (tgt := 25) hx hb dX9_same_21 (by decide) ?_
      exact hp_zret hx hb hr rfl hlocks hZ ⟨rfl, hP, (by decide)⟩ dX9_same_25

set_option maxHeartbeats 4000000 in
set_option maxRecDepth 100000 in
theorem t_X9_firstPlaceOf (l : Launch) (D : va_G) (cs : Nat → ClassId) (B : Nat) (G : hq_G) (V : hp_V) (n : Nat) (hI : hq_I cs G V) (R R1 : Nat) (t : Nat) (h_t : G t = some (0, R, 0, 0)) (u : Nat) (h_u : G u = some (0, R1, 0, 0)) (i : Int32) (hi : 0 ≤ i.toInt) : hp_M l yX9_firstPlaceOf cX9_firstPlaceOf 4 (some .int) ({ frames := 2, cells := 0, slots := 0, locals := 44 }) D cs B V n [.ref (t), .ref (u), .int (i)] (hp_QI D cs B (fun r V' n' => n = n' ∧ hq_P cs G (fun _ => false) V V' ∧ (-1 ≤ r.toInt ∧ r.toInt ≤ 100000))) 0 0 := by
  refine hp_walk (R0 := RX9) (by decide) rfl ?_ (Nat.le_of_ble_eq_true rfl)
  intro p e s m below meth c ls hx hb hr hts hown hlocks hin hml hZ hl
  have hP : hq_P cs G (fun _ => false) V V := hq_P.rf hI
  have hl : lv_has ls 4 [(0, .ref (t)), (1, .ref (u)), (2, .int (i))] := hl
  have hb_i := hq_rng i
  refine lv_iload_n hx hb dX9_firstPlaceOf_0 rfl (lv_at hl 2 rfl) ?_
  refine lv_istore_n (lv' := [(3, .int (i)), (0, .ref (t)), (1, .ref (u)), (2, .int (i))]) hx hb dX9_firstPlaceOf_1 rfl hl (by decide) rfl (fun ls hl => ?_)
  suffices lp2 : ∀ (k9 : Nat) (V9 : hp_V) (H9 : Heap) (locs9 : List Loc) (ls : Array Slot) (j : Int32), (100001 - j.toInt).toNat = k9 → hp_Z D cs B s V9 H9 n locs9 → hq_P cs G (fun _ => false) V V9 → 0 ≤ j.toInt → lv_has ls 4 [(3, .int (j)), (0, .ref (t)), (1, .ref (u)), (2, .int (i))] → W p l e ({ frames := 2, cells := 0, slots := 0, locals := 44 }) s m ([.ref (t), .ref (u), .int (i)] : List Value).toArray below meth c H9 locs9 0 0 (MQ below (hp_QI D cs B (fun r V' n' => n = n' ∧ hq_P cs G (fun _ => false) V V' ∧ (-1 ≤ r.toInt ∧ r.toInt ≤ 100000))) ([.ref (t), .ref (u), .int (i)] : List Value).toArray s 0 0 (hp_F B)) (F0 m 2 ls []) from lp2 _ _ _ _ ls (i) rfl hZ hP (by omega) (lv_sub hl [0, 1, 2, 3] rfl)
  intro k9
  induction k9 using Nat.strongRecOn with
  | _ k9 ih2 =>
    intro V9 H9 locs9 ls j  hk2 hZ hP  hv1 hl
    have hb_j := hq_rng j
    have hP_2 := hP
    refine lv_iload_n hx hb dX9_firstPlaceOf_2 rfl (lv_at hl 0 rfl) ?_
    refine lv_aload_n hx hb dX9_firstPlaceOf_3 rfl (lv_at hl 1 rfl) ?_
    obtain ⟨u3, z4, eV2, hu5, h6, h7, h8⟩ := hq_o0 hP.1 h_t
    refine hp_get (v := .int (z4)) hx hb hts hown hZ eV2 fl_X9_21 rfl dX9_firstPlaceOf_4 ?_
    refine lv_aload_n hx hb dX9_firstPlaceOf_7 rfl (lv_at hl 2 rfl) ?_
    obtain ⟨u10, z11, eV9, hu12, h13, h14, h15⟩ := hq_o0 hP.1 h_u
    refine hp_get (v := .int (z11)) hx hb hts hown hZ eV9 fl_X9_21 rfl dX9_firstPlaceOf_8 ?_
    refine lv_isub hx hb dX9_firstPlaceOf_11 ?_
    refine lv_topi (fun y16 ey17 => ?_)
    obtain ⟨k18, hk19, b20, b21⟩ := hq_sub (z4) (z11)
    rw [← ey17] at hk19 b20 b21
    have hk19 : (y16).toInt = (z4).toInt - (z11).toInt + k18 * 4294967296 := hk19
    refine lv_icmp_gt (tgt := 32) hx hb dX9_firstPlaceOf_12 (by decide) (fun c22 => ?_) (fun c22 => ?_)
    · have c22 : (y16).toInt < (j).toInt := hq_lti.mp c22
      refine lv_iconst (v := -1) hx hb dX9_firstPlaceOf_32 (by decide) ?_
      exact hp_iret hx hb hr hlocks hZ ⟨rfl, hP, (by decide)⟩ dX9_firstPlaceOf_33
    · have c22 : ¬ (y16).toInt < (j).toInt := fun h9 => c22 (hq_lti.mpr h9)
      refine lv_aload_n hx hb dX9_firstPlaceOf_15 rfl (lv_at hl 1 rfl) ?_
      refine lv_aload_n hx hb dX9_firstPlaceOf_16 rfl (lv_at hl 2 rfl) ?_
      refine lv_iload_n hx hb dX9_firstPlaceOf_17 rfl (lv_at hl 0 rfl) ?_
      refine hp_calli (hp_runV (As := [.ref (u), .int (j)]) (rest := []) hx hb hml hown hts (t_X9_holds l D cs B G  V9 n hP.1 R R1 (t) h_t (u) h_u (j) ) hZ eV2 cv_X9_39 rfl rfl ⟨Nat.le_of_ble_eq_true rfl, Nat.le_of_ble_eq_true rfl⟩ rfl hl.1 rfl (Nat.le_of_ble_eq_true rfl) dX9_firstPlaceOf_18 ⟨(Nat.le_of_ble_eq_true rfl), (Nat.le_of_ble_eq_true rfl)⟩) hZ (fun r26 V23 n24 _ _ hw25 hZ => ?_)
      obtain ⟨rfl, hq27, hr28⟩ := hw25
      have hP := hP.trans hq27 (fun _ _ => rfl)
      have b29 := hq_rng r26
      refine lv_if_eq (tgt := 26) hx hb dX9_firstPlaceOf_21 (by decide) (fun c30 => ?_) (fun c30 => ?_)
      · have c30 : (r26).toInt = (0 : Int) := hq_eqi.mp c30
        obtain ⟨y31, ey32⟩ : ∃ y : Int32, y = j + (1) := ⟨_, rfl⟩
        obtain ⟨k33, hk34, b35, b36⟩ := hq_add (j) (1)
        rw [← ey32] at hk34 b35 b36
        have hk34 : (y31).toInt = (j).toInt + (1) + k33 * 4294967296 := hk34
        refine lv_iinc (v := y31) (lv' := [(3, .int (y31)), (0, .ref (t)), (1, .ref (u)), (2, .int (i))]) hx hb dX9_firstPlaceOf_26 hl (k := 0) rfl (by rw [ey32]; rfl) (by decide) rfl (fun ls hl => ?_)
        refine lv_goto (tgt := 2) hx hb dX9_firstPlaceOf_29 (by decide) ?_
        exact ih2 _ (by omega) _ _ _ ls (y31) rfl hZ hP (by omega) (lv_sub hl [0, 1, 2, 3] rfl)
      · have c30 : ¬ (r26).toInt = (0 : Int) := fun h9 => c30 (hq_eqi.mpr h9)
        refine lv_iload_n hx hb dX9_firstPlaceOf_24 rfl (lv_at hl 0 rfl) ?_
        exact hp_iret hx hb hr hlocks hZ ⟨rfl, hP, (by constructor <;> omega)⟩ dX9_firstPlaceOf_25

set_option maxHeartbeats 4000000 in
set_option maxRecDepth 100000 in
theorem t_X9_lastPlaceOf (l : Launch) (D : va_G) (cs : Nat → ClassId) (B : Nat) (G : hq_G) (V : hp_V) (n : Nat) (hI : hq_I cs G V) (R R1 : Nat) (t : Nat) (h_t : G t = some (0, R, 0, 0)) (u : Nat) (h_u : G u = some (0, R1, 0, 0)) : hp_M l yX9_lastPlaceOf cX9_lastPlaceOf 3 (some .int) ({ frames := 2, cells := 0, slots := 0, locals := 44 }) D cs B V n [.ref (t), .ref (u)] (hp_QI D cs B (fun r V' n' => n = n' ∧ hq_P cs G (fun _ => false) V V' ∧ (-1 ≤ r.toInt ∧ r.toInt ≤ 100000))) 0 0 := by
  refine hp_walk (R0 := RX9) (by decide) rfl ?_ (Nat.le_of_ble_eq_true rfl)
  intro p e s m below meth c ls hx hb hr hts hown hlocks hin hml hZ hl
  have hP : hq_P cs G (fun _ => false) V V := hq_P.rf hI
  have hl : lv_has ls 3 [(0, .ref (t)), (1, .ref (u))] := hl
  refine lv_aload_n hx hb dX9_lastPlaceOf_0 rfl (lv_at hl 0 rfl) ?_
  obtain ⟨u2, z3, eV1, hu4, h5, h6, h7⟩ := hq_o0 hP.1 h_t
  refine hp_get (v := .int (z3)) hx hb hts hown hZ eV1 fl_X9_21 rfl dX9_lastPlaceOf_1 ?_
  refine lv_aload_n hx hb dX9_lastPlaceOf_4 rfl (lv_at hl 1 rfl) ?_
  obtain ⟨u9, z10, eV8, hu11, h12, h13, h14⟩ := hq_o0 hP.1 h_u
  refine hp_get (v := .int (z10)) hx hb hts hown hZ eV8 fl_X9_21 rfl dX9_lastPlaceOf_5 ?_
  refine lv_isub hx hb dX9_lastPlaceOf_8 ?_
  refine lv_topi (fun y15 ey16 => ?_)
  obtain ⟨k17, hk18, b19, b20⟩ := hq_sub (z3) (z10)
  rw [← ey16] at hk18 b19 b20
  have hk18 : (y15).toInt = (z3).toInt - (z10).toInt + k17 * 4294967296 := hk18
  refine lv_istore_n (lv' := [(2, .int (y15)), (0, .ref (t)), (1, .ref (u))]) hx hb dX9_lastPlaceOf_9 rfl hl (by decide) rfl (fun ls hl => ?_)
  suffices lp10 : ∀ (k9 : Nat) (V9 : hp_V) (H9 : Heap) (locs9 : List Loc) (ls : Array Slot) (j : Int32), (j.toInt + 200001).toNat = k9 → hp_Z D cs B s V9 H9 n locs9 → hq_P cs G (fun _ => false) V V9 → j.toInt ≤ 100000 → -200000 ≤ j.toInt → lv_has ls 3 [(2, .int (j)), (0, .ref (t)), (1, .ref (u))] → W p l e ({ frames := 2, cells := 0, slots := 0, locals := 44 }) s m ([.ref (t), .ref (u)] : List Value).toArray below meth c H9 locs9 0 0 (MQ below (hp_QI D cs B (fun r V' n' => n = n' ∧ hq_P cs G (fun _ => false) V V' ∧ (-1 ≤ r.toInt ∧ r.toInt ≤ 100000))) ([.ref (t), .ref (u)] : List Value).toArray s 0 0 (hp_F B)) (F0 m 10 ls []) from lp10 _ _ _ _ ls (y15) rfl hZ hP (by omega) (by omega) (lv_sub hl [0, 1, 2] rfl)
  intro k9
  induction k9 using Nat.strongRecOn with
  | _ k9 ih10 =>
    intro V9 H9 locs9 ls j  hk10 hZ hP  hv21 hv22 hl
    have hb_j := hq_rng j
    have hP_10 := hP
    refine lv_iload_n hx hb dX9_lastPlaceOf_10 rfl (lv_at hl 0 rfl) ?_
    refine lv_if_lt (tgt := 31) hx hb dX9_lastPlaceOf_11 (by decide) (fun c23 => ?_) (fun c23 => ?_)
    · have c23 : (j).toInt < (0 : Int) := hq_lti.mp c23
      refine lv_iconst (v := -1) hx hb dX9_lastPlaceOf_31 (by decide) ?_
      exact hp_iret hx hb hr hlocks hZ ⟨rfl, hP, (by decide)⟩ dX9_lastPlaceOf_32
    · have c23 : ¬ (j).toInt < (0 : Int) := fun h9 => c23 (hq_lti.mpr h9)
      refine lv_aload_n hx hb dX9_lastPlaceOf_14 rfl (lv_at hl 1 rfl) ?_
      refine lv_aload_n hx hb dX9_lastPlaceOf_15 rfl (lv_at hl 2 rfl) ?_
      refine lv_iload_n hx hb dX9_lastPlaceOf_16 rfl (lv_at hl 0 rfl) ?_
      have fx30 : V9 (t) = some (.inr (9, [.ref (u2), .int (z3)])) := (hP_10.2 (t) _ h_t rfl).trans (eV1)
      refine hp_calli (hp_runV (As := [.ref (u), .int (j)]) (rest := []) hx hb hml hown hts (t_X9_holds l D cs B G  V9 n hP.1 R R1 (t) h_t (u) h_u (j) ) hZ fx30 cv_X9_39 rfl rfl ⟨Nat.le_of_ble_eq_true rfl, Nat.le_of_ble_eq_true rfl⟩ rfl hl.1 rfl (Nat.le_of_ble_eq_true rfl) dX9_lastPlaceOf_17 ⟨(Nat.le_of_ble_eq_true rfl), (Nat.le_of_ble_eq_true rfl)⟩) hZ (fun r27 V24 n25 _ _ hw26 hZ => ?_)
      obtain ⟨rfl, hq28, hr29⟩ := hw26
      have hP := hP.trans hq28 (fun _ _ => rfl)
      have b31 := hq_rng r27
      refine lv_if_eq (tgt := 25) hx hb dX9_lastPlaceOf_20 (by decide) (fun c32 => ?_) (fun c32 => ?_)
      · have c32 : (r27).toInt = (0 : Int) := hq_eqi.mp c32
        obtain ⟨y33, ey34⟩ : ∃ y : Int32, y = j + (-1) := ⟨_, rfl⟩
        obtain ⟨k35, hk36, b37, b38⟩ := hq_add (j) (-1)
        rw [← ey34] at hk36 b37 b38
        have hk36 : (y33).toInt = (j).toInt + (-1) + k35 * 4294967296 := hk36
        refine lv_iinc (v := y33) (lv' := [(2, .int (y33)), (0, .ref (t)), (1, .ref (u))]) hx hb dX9_lastPlaceOf_25 hl (k := 0) rfl (by rw [ey34]; rfl) (by decide) rfl (fun ls hl => ?_)
        refine lv_goto (tgt := 10) hx hb dX9_lastPlaceOf_28 (by decide) ?_
        exact ih10 _ (by omega) _ _ _ ls (y33) rfl hZ hP (by omega) (by omega) (lv_sub hl [0, 1, 2] rfl)
      · have c32 : ¬ (r27).toInt = (0 : Int) := fun h9 => c32 (hq_eqi.mpr h9)
        refine lv_iload_n hx hb dX9_lastPlaceOf_23 rfl (lv_at hl 0 rfl) ?_
        exact hp_iret hx hb hr hlocks hZ ⟨rfl, hP, (by constructor <;> omega)⟩ dX9_lastPlaceOf_24

set_option maxHeartbeats 4000000 in
set_option maxRecDepth 100000 in
theorem t_X9_mark (l : Launch) (D : va_G) (cs : Nat → ClassId) (B : Nat) (G : hq_G) (V : hp_V) (n : Nat) (hI : hq_I cs G V) (R : Nat) (t : Nat) (h_t : G t = some (0, R, 0, 0)) : hp_M l yX9_mark cX9_mark 3 (some .long) ({ frames := 1, cells := 0, slots := 0, locals := 21 }) D cs B V n [.ref (t)] (hp_QL D cs B (fun r V' n' => n = n' ∧ hq_P cs G (fun _ => false) V V' ∧ True)) 0 0 := by
  refine hp_walk (R0 := RX9) (by decide) rfl ?_ (Nat.le_of_ble_eq_true rfl)
  intro p e s m below meth c ls hx hb hr hts hown hlocks hin hml hZ hl
  have hP : hq_P cs G (fun _ => false) V V := hq_P.rf hI
  have hl : lv_has ls 3 [(0, .ref (t))] := hl
  refine lv_aload_n hx hb dX9_mark_0 rfl (lv_at hl 0 rfl) ?_
  obtain ⟨u2, z3, eV1, hu4, h5, h6, h7⟩ := hq_o0 hP.1 h_t
  refine hp_get (v := .int (z3)) hx hb hts hown hZ eV1 fl_X9_21 rfl dX9_mark_1 ?_
  refine lv_istore_n (lv' := [(1, .int (z3)), (0, .ref (t))]) hx hb dX9_mark_4 rfl hl (by decide) rfl (fun ls hl => ?_)
  refine lv_iconst (v := 0) hx hb dX9_mark_5 (by decide) ?_
  refine lv_istore_n (lv' := [(2, .int (0)), (1, .int (z3)), (0, .ref (t))]) hx hb dX9_mark_6 rfl hl (by decide) rfl (fun ls hl => ?_)
  have hl8 : (0 : Int32).toInt = 0 := by decide
  suffices lp7 : ∀ (k9 : Nat) (V9 : hp_V) (H9 : Heap) (locs9 : List Loc) (ls : Array Slot) (h : Int32) (j : Int32), (100001 - j.toInt).toNat = k9 → hp_Z D cs B s V9 H9 n locs9 → hq_P cs G (fun _ => false) V V9 → 0 ≤ j.toInt → j.toInt ≤ 100000 → lv_has ls 3 [(2, .int (j)), (1, .int (h)), (0, .ref (t))] → W p l e ({ frames := 1, cells := 0, slots := 0, locals := 21 }) s m ([.ref (t)] : List Value).toArray below meth c H9 locs9 0 0 (MQ below (hp_QL D cs B (fun r V' n' => n = n' ∧ hq_P cs G (fun _ => false) V V' ∧ True)) ([.ref (t)] : List Value).toArray s 0 0 (hp_F B)) (F0 m 7 ls []) from lp7 _ _ _ _ ls (z3) (0) rfl hZ hP (by omega) (by omega) (lv_sub hl [0, 1, 2] rfl)
  intro k9
  induction k9 using Nat.strongRecOn with
  | _ k9 ih7 =>
    intro V9 H9 locs9 ls h j  hk7 hZ hP  hv9 hv10 hl
    have hb_h := hq_rng h
    have hb_j := hq_rng j
    have hP_7 := hP
    refine lv_iload_n hx hb dX9_mark_7 rfl (lv_at hl 0 rfl) ?_
    refine lv_aload_n hx hb dX9_mark_8 rfl (lv_at hl 2 rfl) ?_
    have fx11 : V9 (t) = some (.inr (9, [.ref (u2), .int (z3)])) := (hP_7.2 (t) _ h_t rfl).trans (eV1)
    refine hp_get (v := .int (z3)) hx hb hts hown hZ fx11 fl_X9_21 rfl dX9_mark_9 ?_
    refine lv_icmp_ge (tgt := 33) hx hb dX9_mark_12 (by decide) (fun c12 => ?_) (fun c12 => ?_)
    · have c12 : (z3).toInt ≤ (j).toInt := hq_lei.mp c12
      refine lv_lconst (v := 1) hx hb dX9_mark_33 (by decide) ?_
      refine lv_iload_n hx hb dX9_mark_34 rfl (lv_at hl 1 rfl) ?_
      refine lv_iload_n hx hb dX9_mark_35 rfl (lv_at hl 1 rfl) ?_
      refine lv_bipush (v := 6) hx hb dX9_mark_36 (by decide) ?_
      refine lv_iushr (v := ((h : Int32).toUInt32 >>> ((6 : Int32).toUInt32 &&& Int32.toUInt32 31)).toInt32) hx hb dX9_mark_38 rfl ?_
      refine lv_topi (fun y13 ey14 => ?_)
      have b15 := hq_rng y13
      refine lv_ixor hx hb dX9_mark_39 ?_
      refine lv_topi (fun y16 ey17 => ?_)
      have b18 := hq_rng y16
      refine lv_iload_n hx hb dX9_mark_40 rfl (lv_at hl 1 rfl) ?_
      refine lv_bipush (v := 12) hx hb dX9_mark_41 (by decide) ?_
      refine lv_iushr (v := ((h : Int32).toUInt32 >>> ((12 : Int32).toUInt32 &&& Int32.toUInt32 31)).toInt32) hx hb dX9_mark_43 rfl ?_
      refine lv_topi (fun y19 ey20 => ?_)
      have b21 := hq_rng y19
      refine lv_ixor hx hb dX9_mark_44 ?_
      refine lv_topi (fun y22 ey23 => ?_)
      have b24 := hq_rng y22
      refine lv_bipush (v := 63) hx hb dX9_mark_45 (by decide) ?_
      refine lv_iand hx hb dX9_mark_47 ?_
      refine lv_topi (fun y25 ey26 => ?_)
      have b27 := hq_rng y25
      refine lv_lshl (v := (1 : Int64) <<< ((y25 : Int32).toInt64 &&& 63)) hx hb dX9_mark_48 rfl ?_
      refine lv_topl (fun y28 ey29 => ?_)
      exact hp_lret hx hb hr hlocks hZ ⟨rfl, hP, trivial⟩ dX9_mark_49
    · have c12 : ¬ (z3).toInt ≤ (j).toInt := fun h9 => c12 (hq_lei.mpr h9)
      refine lv_iload_n hx hb dX9_mark_15 rfl (lv_at hl 1 rfl) ?_
      refine lv_bipush (v := 31) hx hb dX9_mark_16 (by decide) ?_
      refine lv_imul hx hb dX9_mark_18 ?_
      refine lv_topi (fun y30 ey31 => ?_)
      obtain ⟨k32, hk33, b34, b35⟩ := hq_mul (h) (31)
      rw [← ey31] at hk33 b34 b35
      have hk33 : (y30).toInt = (h).toInt * (31 : Int) + k32 * 4294967296 := hk33
      refine lv_aload_n hx hb dX9_mark_19 rfl (lv_at hl 2 rfl) ?_
      refine hp_get (v := .ref (u2)) hx hb hts hown hZ fx11 fl_X9_15 rfl dX9_mark_20 ?_
      refine lv_iload_n hx hb dX9_mark_23 rfl (lv_at hl 0 rfl) ?_
      obtain ⟨hN38, g37, eV36, hf39⟩ := hq_o1 hP.1 hu4
      refine hp_bald hx hb hZ eV36 (hq_in (by omega) (by omega)) dX9_mark_24 ?_
      refine lv_topi (fun y40 ey41 => ?_)
      have b42 := hq_rng y40
      refine lv_iadd hx hb dX9_mark_25 ?_
      refine lv_topi (fun y43 ey44 => ?_)
      obtain ⟨k45, hk46, b47, b48⟩ := hq_add (y30) (y40)
      rw [← ey44] at hk46 b47 b48
      have hk46 : (y43).toInt = (y30).toInt + (y40).toInt + k45 * 4294967296 := hk46
      refine lv_istore_n (lv' := [(1, .int (y43)), (2, .int (j)), (0, .ref (t))]) hx hb dX9_mark_26 rfl hl (by decide) rfl (fun ls hl => ?_)
      obtain ⟨y49, ey50⟩ : ∃ y : Int32, y = j + (1) := ⟨_, rfl⟩
      obtain ⟨k51, hk52, b53, b54⟩ := hq_add (j) (1)
      rw [← ey50] at hk52 b53 b54
      have hk52 : (y49).toInt = (j).toInt + (1) + k51 * 4294967296 := hk52
      refine lv_iinc (v := y49) (lv' := [(2, .int (y49)), (1, .int (y43)), (0, .ref (t))]) hx hb dX9_mark_27 hl (k := 1) rfl (by rw [ey50]; rfl) (by decide) rfl (fun ls hl => ?_)
      refine lv_goto (tgt := 7) hx hb dX9_mark_30 (by decide) ?_
      exact ih7 _ (by omega) _ _ _ ls (y43) (y49) rfl hZ hP (by omega) (by omega) (lv_sub hl [0, 1, 2] rfl)

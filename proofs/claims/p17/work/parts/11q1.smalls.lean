set_option maxHeartbeats 4000000 in
set_option maxRecDepth 100000 in
theorem x_isLn (l : Launch) (D : va_G) (cs : Nat → ClassId) (B : Nat) (G : hq_G) (V : hp_V) (n : Nat) (hI : hq_I cs G V) (k : Int32) : hp_M l yX11_isLearner cX11_isLearner 1 (some .boolean) ({ frames := 1, cells := 0, slots := 0, locals := 21 }) D cs B V n [.int (k)] (hp_QI D cs B (fun r V' n' => n = n' ∧ V = V' ∧ ((r.toInt = 1 ∧ 0 ≤ k.toInt ∧ k.toInt < 8) ∨ (r.toInt = 0 ∧ ¬ (0 ≤ k.toInt ∧ k.toInt < 8))))) 0 0 := by
  refine hp_walk (R0 := RX11) (by decide) rfl ?_ (Nat.le_of_ble_eq_true rfl)
  intro p e s m below meth c ls hx hb hr hts hown hlocks hin hml hZ hl
  have hP : hq_I cs G V := hI
  have hl : lv_has ls 1 [(0, .int (k))] := hl
  have hb_k := hq_rng k
  refine lv_iload_n hx hb dX11_isLearner_0 rfl (lv_at hl 0 rfl) ?_
  refine lv_if_lt (tgt := 14) hx hb dX11_isLearner_1 (by decide) (fun c1 => ?_) (fun c1 => ?_)
  · have c1 : (k).toInt < (0 : Int) := hq_lti.mp c1
    refine lv_iconst (v := 0) hx hb dX11_isLearner_14 (by decide) ?_
    have hl2 : (0 : Int32).toInt = 0 := by decide
    exact hp_zret hx hb hr rfl hlocks hZ ⟨rfl, rfl, (by omega)⟩ dX11_isLearner_15
  · have c1 : ¬ (k).toInt < (0 : Int) := fun h9 => c1 (hq_lti.mpr h9)
    refine lv_iload_n hx hb dX11_isLearner_4 rfl (lv_at hl 0 rfl) ?_
    refine lv_bipush (v := 8) hx hb dX11_isLearner_5 (by decide) ?_
    refine lv_icmp_ge (tgt := 14) hx hb dX11_isLearner_7 (by decide) (fun c3 => ?_) (fun c3 => ?_)
    · have c3 : (8 : Int) ≤ (k).toInt := hq_lei.mp c3
      refine lv_iconst (v := 0) hx hb dX11_isLearner_14 (by decide) ?_
      have hl4 : (0 : Int32).toInt = 0 := by decide
      exact hp_zret hx hb hr rfl hlocks hZ ⟨rfl, rfl, (by omega)⟩ dX11_isLearner_15
    · have c3 : ¬ (8 : Int) ≤ (k).toInt := fun h9 => c3 (hq_lei.mpr h9)
      refine lv_iconst (v := 1) hx hb dX11_isLearner_10 (by decide) ?_
      refine lv_goto (tgt := 15) hx hb dX11_isLearner_11 (by decide) ?_
      have hl5 : (1 : Int32).toInt = 1 := by decide
      exact hp_zret hx hb hr rfl hlocks hZ ⟨rfl, rfl, (by omega)⟩ dX11_isLearner_15

set_option maxHeartbeats 4000000 in
set_option maxRecDepth 100000 in
theorem x_plOf (l : Launch) (D : va_G) (cs : Nat → ClassId) (B : Nat) (G : hq_G) (V : hp_V) (n : Nat) (hI : hq_I cs G V) (v : Int32) (te : Int32) (pe : Int32) : hp_M l yX11_placeOf cX11_placeOf 3 (some .int) ({ frames := 1, cells := 0, slots := 0, locals := 21 }) D cs B V n [.int (v), .int (te), .int (pe)] (hp_QI D cs B (fun r V' n' => n = n' ∧ V = V')) 0 0 := by
  refine hp_walk (R0 := RX11) (by decide) rfl ?_ (Nat.le_of_ble_eq_true rfl)
  intro p e s m below meth c ls hx hb hr hts hown hlocks hin hml hZ hl
  have hP : hq_I cs G V := hI
  have hl : lv_has ls 3 [(0, .int (v)), (1, .int (te)), (2, .int (pe))] := hl
  have hb_v := hq_rng v
  have hb_te := hq_rng te
  have hb_pe := hq_rng pe
  refine lv_iload_n hx hb dX11_placeOf_0 rfl (lv_at hl 0 rfl) ?_
  refine lv_bipush (v := 30) hx hb dX11_placeOf_1 (by decide) ?_
  refine lv_imul hx hb dX11_placeOf_3 ?_
  refine lv_topi (fun y1 ey2 => ?_)
  obtain ⟨k3, hk4, b5, b6⟩ := hq_mul (v) (30)
  rw [← ey2] at hk4 b5 b6
  have hk4 : (y1).toInt = (v).toInt * (30 : Int) + k3 * 4294967296 := hk4
  refine lv_iload_n hx hb dX11_placeOf_4 rfl (lv_at hl 1 rfl) ?_
  refine lv_bipush (v := 6) hx hb dX11_placeOf_5 (by decide) ?_
  refine lv_imul hx hb dX11_placeOf_7 ?_
  refine lv_topi (fun y7 ey8 => ?_)
  obtain ⟨k9, hk10, b11, b12⟩ := hq_mul (te) (6)
  rw [← ey8] at hk10 b11 b12
  have hk10 : (y7).toInt = (te).toInt * (6 : Int) + k9 * 4294967296 := hk10
  refine lv_iadd hx hb dX11_placeOf_8 ?_
  refine lv_topi (fun y13 ey14 => ?_)
  obtain ⟨k15, hk16, b17, b18⟩ := hq_add (y1) (y7)
  rw [← ey14] at hk16 b17 b18
  have hk16 : (y13).toInt = (y1).toInt + (y7).toInt + k15 * 4294967296 := hk16
  refine lv_iload_n hx hb dX11_placeOf_9 rfl (lv_at hl 2 rfl) ?_
  refine lv_iadd hx hb dX11_placeOf_10 ?_
  refine lv_topi (fun y19 ey20 => ?_)
  obtain ⟨k21, hk22, b23, b24⟩ := hq_add (y13) (pe)
  rw [← ey20] at hk22 b23 b24
  have hk22 : (y19).toInt = (y13).toInt + (pe).toInt + k21 * 4294967296 := hk22
  exact hp_iret hx hb hr hlocks hZ ⟨rfl, rfl⟩ dX11_placeOf_11

set_option maxHeartbeats 4000000 in
set_option maxRecDepth 100000 in
theorem x_isPl (l : Launch) (D : va_G) (cs : Nat → ClassId) (B : Nat) (G : hq_G) (V : hp_V) (n : Nat) (hI : hq_I cs G V) (a : Nat) (kb : Nat) (qt : Nat) (qb : Nat) (v : Int32) (te : Int32) (pe : Int32) (c_fs : Int32) (bc : Int32) (bv : Int32) (bl : Int32) (hc0 : V (a) = some (.inr (11, [.ref (kb), .ref (kb + 2), .ref (kb + 5), .ref (kb + 46), .ref (kb + 50), .ref (kb + 62), .ref (kb + 87), .int (c_fs), .ref (qt), .ref (qb)]))) (hc1 : V (qt) = some (.inr (0, [.ref (qt + 1), .int (bc), .ref (qt + 14), .ref (qt + 75), .int (bv), .ref (qt + 76), .int (bl)]))) : hp_M l yX11_isPlace cX11_isPlace 4 (some .boolean) ({ frames := 1, cells := 0, slots := 0, locals := 21 }) D cs B V n [.ref (a), .int (v), .int (te), .int (pe)] (hp_QI D cs B (fun r V' n' => n = n' ∧ V = V' ∧ ((r.toInt = 1 ∧ (0 ≤ v.toInt ∧ v.toInt < bv.toInt ∧ 0 ≤ te.toInt ∧ te.toInt < 5 ∧ 0 ≤ pe.toInt ∧ pe.toInt < 6)) ∨ (r.toInt = 0 ∧ ¬ (0 ≤ v.toInt ∧ v.toInt < bv.toInt ∧ 0 ≤ te.toInt ∧ te.toInt < 5 ∧ 0 ≤ pe.toInt ∧ pe.toInt < 6))))) 0 0 := by
  refine hp_walk (R0 := RX11) (by decide) rfl ?_ (Nat.le_of_ble_eq_true rfl)
  intro p e s m below meth c ls hx hb hr hts hown hlocks hin hml hZ hl
  have hP : hq_I cs G V := hI
  have hl : lv_has ls 4 [(0, .ref (a)), (1, .int (v)), (2, .int (te)), (3, .int (pe))] := hl
  have hb_v := hq_rng v
  have hb_te := hq_rng te
  have hb_pe := hq_rng pe
  have hb_c_fs := hq_rng c_fs
  have hb_bc := hq_rng bc
  have hb_bv := hq_rng bv
  have hb_bl := hq_rng bl
  refine lv_iload_n hx hb dX11_isPlace_0 rfl (lv_at hl 1 rfl) ?_
  refine lv_if_lt (tgt := 38) hx hb dX11_isPlace_1 (by decide) (fun c1 => ?_) (fun c1 => ?_)
  · have c1 : (v).toInt < (0 : Int) := hq_lti.mp c1
    refine lv_iconst (v := 0) hx hb dX11_isPlace_38 (by decide) ?_
    have hl2 : (0 : Int32).toInt = 0 := by decide
    exact hp_zret hx hb hr rfl hlocks hZ ⟨rfl, rfl, (by omega)⟩ dX11_isPlace_39
  · have c1 : ¬ (v).toInt < (0 : Int) := fun h9 => c1 (hq_lti.mpr h9)
    refine lv_iload_n hx hb dX11_isPlace_4 rfl (lv_at hl 1 rfl) ?_
    refine lv_aload_n hx hb dX11_isPlace_5 rfl (lv_at hl 0 rfl) ?_
    refine hp_get (v := .ref (qt)) hx hb hts hown hZ hc0 fl_X11_64 rfl dX11_isPlace_6 ?_
    refine hp_get (v := .int (bv)) hx hb hts hown hZ hc1 fl_X11_96 rfl dX11_isPlace_9 ?_
    refine lv_icmp_ge (tgt := 38) hx hb dX11_isPlace_12 (by decide) (fun c3 => ?_) (fun c3 => ?_)
    · have c3 : (bv).toInt ≤ (v).toInt := hq_lei.mp c3
      refine lv_iconst (v := 0) hx hb dX11_isPlace_38 (by decide) ?_
      have hl4 : (0 : Int32).toInt = 0 := by decide
      exact hp_zret hx hb hr rfl hlocks hZ ⟨rfl, rfl, (by omega)⟩ dX11_isPlace_39
    · have c3 : ¬ (bv).toInt ≤ (v).toInt := fun h9 => c3 (hq_lei.mpr h9)
      refine lv_iload_n hx hb dX11_isPlace_15 rfl (lv_at hl 2 rfl) ?_
      refine lv_if_lt (tgt := 38) hx hb dX11_isPlace_16 (by decide) (fun c5 => ?_) (fun c5 => ?_)
      · have c5 : (te).toInt < (0 : Int) := hq_lti.mp c5
        refine lv_iconst (v := 0) hx hb dX11_isPlace_38 (by decide) ?_
        have hl6 : (0 : Int32).toInt = 0 := by decide
        exact hp_zret hx hb hr rfl hlocks hZ ⟨rfl, rfl, (by omega)⟩ dX11_isPlace_39
      · have c5 : ¬ (te).toInt < (0 : Int) := fun h9 => c5 (hq_lti.mpr h9)
        refine lv_iload_n hx hb dX11_isPlace_19 rfl (lv_at hl 2 rfl) ?_
        refine lv_iconst (v := 5) hx hb dX11_isPlace_20 (by decide) ?_
        refine lv_icmp_ge (tgt := 38) hx hb dX11_isPlace_21 (by decide) (fun c7 => ?_) (fun c7 => ?_)
        · have c7 : (5 : Int) ≤ (te).toInt := hq_lei.mp c7
          refine lv_iconst (v := 0) hx hb dX11_isPlace_38 (by decide) ?_
          have hl8 : (0 : Int32).toInt = 0 := by decide
          exact hp_zret hx hb hr rfl hlocks hZ ⟨rfl, rfl, (by omega)⟩ dX11_isPlace_39
        · have c7 : ¬ (5 : Int) ≤ (te).toInt := fun h9 => c7 (hq_lei.mpr h9)
          refine lv_iload_n hx hb dX11_isPlace_24 rfl (lv_at hl 3 rfl) ?_
          refine lv_if_lt (tgt := 38) hx hb dX11_isPlace_25 (by decide) (fun c9 => ?_) (fun c9 => ?_)
          · have c9 : (pe).toInt < (0 : Int) := hq_lti.mp c9
            refine lv_iconst (v := 0) hx hb dX11_isPlace_38 (by decide) ?_
            have hl10 : (0 : Int32).toInt = 0 := by decide
            exact hp_zret hx hb hr rfl hlocks hZ ⟨rfl, rfl, (by omega)⟩ dX11_isPlace_39
          · have c9 : ¬ (pe).toInt < (0 : Int) := fun h9 => c9 (hq_lti.mpr h9)
            refine lv_iload_n hx hb dX11_isPlace_28 rfl (lv_at hl 3 rfl) ?_
            refine lv_bipush (v := 6) hx hb dX11_isPlace_29 (by decide) ?_
            refine lv_icmp_ge (tgt := 38) hx hb dX11_isPlace_31 (by decide) (fun c11 => ?_) (fun c11 => ?_)
            · have c11 : (6 : Int) ≤ (pe).toInt := hq_lei.mp c11
              refine lv_iconst (v := 0) hx hb dX11_isPlace_38 (by decide) ?_
              have hl12 : (0 : Int32).toInt = 0 := by decide
              exact hp_zret hx hb hr rfl hlocks hZ ⟨rfl, rfl, (by omega)⟩ dX11_isPlace_39
            · have c11 : ¬ (6 : Int) ≤ (pe).toInt := fun h9 => c11 (hq_lei.mpr h9)
              refine lv_iconst (v := 1) hx hb dX11_isPlace_34 (by decide) ?_
              refine lv_goto (tgt := 39) hx hb dX11_isPlace_35 (by decide) ?_
              have hl13 : (1 : Int32).toInt = 1 := by decide
              exact hp_zret hx hb hr rfl hlocks hZ ⟨rfl, rfl, (by omega)⟩ dX11_isPlace_39

set_option maxHeartbeats 4000000 in
set_option maxRecDepth 100000 in
theorem x_getNone (l : Launch) (D : va_G) (cs : Nat → ClassId) (B : Nat) (G : hq_G) (V : hp_V) (n : Nat) (hI : hq_I cs G V) (fl : Nat) (k : Int32) (nz : Int32) (hc0 : V (fl) = some (.inr (3, [.ref (fl + 1), .int (nz)]))) (hk : ¬ (0 ≤ k.toInt ∧ k.toInt < nz.toInt)) : hp_M l yX3_get cX3_get 2 (some (.object "VerbSchool$Form")) ({ frames := 1, cells := 0, slots := 0, locals := 21 }) D cs B V n [.ref (fl), .int (k)] (hp_QR D cs B (fun r V' n' => n = n' ∧ V = V' ∧ (r = none))) 0 0 := by
  refine hp_walk (R0 := RX3) (by decide) rfl ?_ (Nat.le_of_ble_eq_true rfl)
  intro p e s m below meth c ls hx hb hr hts hown hlocks hin hml hZ hl
  have hP : hq_I cs G V := hI
  have hl : lv_has ls 2 [(0, .ref (fl)), (1, .int (k))] := hl
  have hb_k := hq_rng k
  have hb_nz := hq_rng nz
  refine lv_iload_n hx hb dX3_get_0 rfl (lv_at hl 1 rfl) ?_
  refine lv_if_lt (tgt := 21) hx hb dX3_get_1 (by decide) (fun c1 => ?_) (fun c1 => ?_)
  · have c1 : (k).toInt < (0 : Int) := hq_lti.mp c1
    refine lv_null hx hb dX3_get_21 ?_
    exact hp_aret (r := none) hx hb hr (Or.inl ⟨_, rfl⟩) hlocks hZ ⟨rfl, rfl, rfl⟩ dX3_get_22
  · have c1 : ¬ (k).toInt < (0 : Int) := fun h9 => c1 (hq_lti.mpr h9)
    refine lv_iload_n hx hb dX3_get_4 rfl (lv_at hl 1 rfl) ?_
    refine lv_aload_n hx hb dX3_get_5 rfl (lv_at hl 0 rfl) ?_
    refine hp_get (v := .int (nz)) hx hb hts hown hZ hc0 fl_X3_24 rfl dX3_get_6 ?_
    refine lv_icmp_ge (tgt := 21) hx hb dX3_get_9 (by decide) (fun c2 => ?_) (fun c2 => ?_)
    · have c2 : (nz).toInt ≤ (k).toInt := hq_lei.mp c2
      refine lv_null hx hb dX3_get_21 ?_
      exact hp_aret (r := none) hx hb hr (Or.inl ⟨_, rfl⟩) hlocks hZ ⟨rfl, rfl, rfl⟩ dX3_get_22
    · have c2 : ¬ (nz).toInt ≤ (k).toInt := fun h9 => c2 (hq_lei.mpr h9)
      exfalso
      omega

set_option maxHeartbeats 4000000 in
set_option maxRecDepth 100000 in
theorem x_getSome (l : Launch) (D : va_G) (cs : Nat → ClassId) (B : Nat) (G : hq_G) (V : hp_V) (n : Nat) (hI : hq_I cs G V) (fl : Nat) (it : Nat) (k : Int32) (nz : Int32) (gf : Nat → Option Nat) (hc0 : V (fl) = some (.inr (3, [.ref (fl + 1), .int (nz)]))) (hc1 : V (fl + 1) = some (.inl (cs 4, 4, .inr (.inr (.inr (.inr (gf))))))) (hgf : ∀ j, j < 4 → gf j = some (fl + 2 + 4 * j)) (hit : it = fl + 2 + 4 * k.toNatClampNeg) (hk : 0 ≤ k.toInt ∧ k.toInt < nz.toInt ∧ nz.toInt ≤ 4) : hp_M l yX3_get cX3_get 2 (some (.object "VerbSchool$Form")) ({ frames := 1, cells := 0, slots := 0, locals := 21 }) D cs B V n [.ref (fl), .int (k)] (hp_QR D cs B (fun r V' n' => n = n' ∧ V = V' ∧ (r = some (it)))) 0 0 := by
  refine hp_walk (R0 := RX3) (by decide) rfl ?_ (Nat.le_of_ble_eq_true rfl)
  intro p e s m below meth c ls hx hb hr hts hown hlocks hin hml hZ hl
  have hP : hq_I cs G V := hI
  have hl : lv_has ls 2 [(0, .ref (fl)), (1, .int (k))] := hl
  have hb_k := hq_rng k
  have hb_nz := hq_rng nz
  have hkn := (hq_nn (z := k) (by omega)).1
  have hgi : gf k.toNatClampNeg = some it := by rw [hgf _ (by omega), hit]
  refine lv_iload_n hx hb dX3_get_0 rfl (lv_at hl 1 rfl) ?_
  refine lv_if_lt (tgt := 21) hx hb dX3_get_1 (by decide) (fun c1 => ?_) (fun c1 => ?_)
  · have c1 : (k).toInt < (0 : Int) := hq_lti.mp c1
    exfalso
    omega
  · have c1 : ¬ (k).toInt < (0 : Int) := fun h9 => c1 (hq_lti.mpr h9)
    refine lv_iload_n hx hb dX3_get_4 rfl (lv_at hl 1 rfl) ?_
    refine lv_aload_n hx hb dX3_get_5 rfl (lv_at hl 0 rfl) ?_
    refine hp_get (v := .int (nz)) hx hb hts hown hZ hc0 fl_X3_24 rfl dX3_get_6 ?_
    refine lv_icmp_ge (tgt := 21) hx hb dX3_get_9 (by decide) (fun c2 => ?_) (fun c2 => ?_)
    · have c2 : (nz).toInt ≤ (k).toInt := hq_lei.mp c2
      exfalso
      omega
    · have c2 : ¬ (nz).toInt ≤ (k).toInt := fun h9 => c2 (hq_lei.mpr h9)
      refine lv_aload_n hx hb dX3_get_12 rfl (lv_at hl 0 rfl) ?_
      refine hp_get (v := .ref (fl + 1)) hx hb hts hown hZ hc0 fl_X3_17 rfl dX3_get_13 ?_
      refine lv_iload_n hx hb dX3_get_16 rfl (lv_at hl 1 rfl) ?_
      refine hp_aald (v := .ref (it)) hx hb hZ 4 hc1 rfl (hq_in (by omega) (by omega)) (by rw [hgi]; rfl) dX3_get_17 ?_
      refine lv_goto (tgt := 22) hx hb dX3_get_18 (by decide) ?_
      exact hp_aret (r := some (it)) hx hb hr (Or.inl ⟨_, rfl⟩) hlocks hZ ⟨rfl, rfl, rfl⟩ dX3_get_22

set_option maxHeartbeats 4000000 in
set_option maxRecDepth 100000 in
theorem x_isSlip (l : Launch) (D : va_G) (cs : Nat → ClassId) (B : Nat) (G : hq_G) (V : hp_V) (n : Nat) (hI : hq_I cs G V) (a : Nat) (kb : Nat) (qt : Nat) (qb : Nat) (w : sp_W) (bk : sp_B) (c9 : Int) (v : Int32) (te : Int32) (pe : Int32) (c_fs : Int32) (bc : Int32) (bv : Int32) (bl : Int32) (mz : Int32) (nz : Int32) (vf : Nat → Int32) (hc0 : V (a) = some (.inr (11, [.ref (kb), .ref (kb + 2), .ref (kb + 5), .ref (kb + 46), .ref (kb + 50), .ref (kb + 62), .ref (kb + 87), .int (c_fs), .ref (qt), .ref (qb)]))) (hc1 : V (qt) = some (.inr (0, [.ref (qt + 1), .int (bc), .ref (qt + 14), .ref (qt + 75), .int (bv), .ref (qt + 76), .int (bl)]))) (hc2 : V (qt + 75) = some (.inl (cs 1, 30, .inl (vf)))) (hc3 : V (kb + 5) = some (.inr (6, [.ref (kb + 6), .int (mz), .ref (kb + 24), .ref (kb + 34), .ref (kb + 44)]))) (hc4 : V (kb + 6) = some (.inr (3, [.ref (kb + 7), .int (nz)]))) (hp0 : hx_LL cs V (qt + 77) w bk.2.2.2) (hp1 : hx_BS cs V qt) (hbl : bl.toInt = (bk.2.2.2.length : Int)) (hv : 0 ≤ v.toInt ∧ v.toInt < 30) (hc9 : (vf v.toNatClampNeg).toInt = c9) : hp_M l yX11_isSlipAt cX11_isSlipAt 4 (some .boolean) ({ frames := 4, cells := 0, slots := 0, locals := 92 }) D cs B V n [.ref (a), .int (v), .int (te), .int (pe)] (hp_QI D cs B (fun r V' n' => n = n' ∧ V = V' ∧ ((r.toInt = 1 ∧ 0 < nz.toInt ∧ (sp_nf 3 v.toInt c9 te.toInt pe.toInt bk.2.2.2 0) = -1) ∨ (r.toInt = 0 ∧ ¬ (0 < nz.toInt ∧ (sp_nf 3 v.toInt c9 te.toInt pe.toInt bk.2.2.2 0) = -1))))) 0 0 := by
  refine hp_walk (R0 := RX11) (by decide) rfl ?_ (Nat.le_of_ble_eq_true rfl)
  intro p e s m below meth c ls hx hb hr hts hown hlocks hin hml hZ hl
  have hP : hq_I cs G V := hI
  have hl : lv_has ls 4 [(0, .ref (a)), (1, .int (v)), (2, .int (te)), (3, .int (pe))] := hl
  have hb_v := hq_rng v
  have hb_te := hq_rng te
  have hb_pe := hq_rng pe
  have hb_c_fs := hq_rng c_fs
  have hb_bc := hq_rng bc
  have hb_bv := hq_rng bv
  have hb_bl := hq_rng bl
  have hb_mz := hq_rng mz
  have hb_nz := hq_rng nz
  refine lv_aload_n hx hb dX11_isSlipAt_0 rfl (lv_at hl 0 rfl) ?_
  refine hp_get (v := .ref (kb + 5)) hx hb hts hown hZ hc0 fl_X11_28 rfl dX11_isSlipAt_1 ?_
  refine hp_get (v := .ref (kb + 6)) hx hb hts hown hZ hc3 fl_X11_149 rfl dX11_isSlipAt_4 ?_
  refine hp_get (v := .int (nz)) hx hb hts hown hZ hc4 fl_X11_153 rfl dX11_isSlipAt_7 ?_
  refine lv_if_le (tgt := 33) hx hb dX11_isSlipAt_10 (by decide) (fun c1 => ?_) (fun c1 => ?_)
  · have c1 : (nz).toInt ≤ (0 : Int) := hq_lei.mp c1
    refine lv_iconst (v := 0) hx hb dX11_isSlipAt_33 (by decide) ?_
    have hl2 : (0 : Int32).toInt = 0 := by decide
    exact hp_zret hx hb hr rfl hlocks hZ ⟨rfl, rfl, (by omega)⟩ dX11_isSlipAt_34
  · have c1 : ¬ (nz).toInt ≤ (0 : Int) := fun h9 => c1 (hq_lei.mpr h9)
    refine lv_aload_n hx hb dX11_isSlipAt_13 rfl (lv_at hl 0 rfl) ?_
    refine hp_get (v := .ref (qt)) hx hb hts hown hZ hc0 fl_X11_64 rfl dX11_isSlipAt_14 ?_
    refine lv_iconst (v := 3) hx hb dX11_isSlipAt_17 (by decide) ?_
    refine lv_iconst (v := 0) hx hb dX11_isSlipAt_18 (by decide) ?_
    refine lv_iload_n hx hb dX11_isSlipAt_19 rfl (lv_at hl 1 rfl) ?_
    refine lv_iload_n hx hb dX11_isSlipAt_20 rfl (lv_at hl 2 rfl) ?_
    refine lv_iload_n hx hb dX11_isSlipAt_21 rfl (lv_at hl 3 rfl) ?_
    have hl3 : (3 : Int32).toInt = 3 := by decide
    have hl4 : (0 : Int32).toInt = 0 := by decide
    refine hp_calli (hp_runV (As := [.int (3), .int (0), .int (v), .int (te), .int (pe)]) (rest := []) hx hb hml hown hts (x_nf l D cs B G V n hP (qt) (c9) (w) (bk) (3) (0) (v) (te) (pe) (bc) (bv) (bl) (vf)  hc1 hc2 hp0 hp1 hbl (by omega) (by omega) hc9) hZ hc1 cv_X11_292 rfl rfl ⟨Nat.le_of_ble_eq_true rfl, Nat.le_of_ble_eq_true rfl⟩ rfl hl.1 rfl (Nat.le_of_ble_eq_true rfl) dX11_isSlipAt_22 ⟨(Nat.le_of_ble_eq_true rfl), (Nat.le_of_ble_eq_true rfl)⟩) hZ (fun r8 V5 n6 _ _ hw7 hZ => ?_)
    obtain ⟨rfl, rfl, hp11⟩ := hw7
    have b12 := hq_rng r8
    have hf3 := hp11
    rw [show (3 : Int32).toInt = 3 by decide, show (0 : Int32).toNatClampNeg = 0 by decide, show (0 : Int32).toInt = 0 by decide, List.drop_zero] at hf3
    refine lv_iconst (v := -1) hx hb dX11_isSlipAt_25 (by decide) ?_
    refine lv_icmp_ne (tgt := 33) hx hb dX11_isSlipAt_26 (by decide) (fun c13 => ?_) (fun c13 => ?_)
    · have c13 : ¬ (r8).toInt = (-1 : Int) := fun h9 => c13 (hq_eqi.mpr h9)
      refine lv_iconst (v := 0) hx hb dX11_isSlipAt_33 (by decide) ?_
      have hl14 : (0 : Int32).toInt = 0 := by decide
      exact hp_zret hx hb hr rfl hlocks hZ ⟨rfl, rfl, (by omega)⟩ dX11_isSlipAt_34
    · have c13 : (r8).toInt = (-1 : Int) := hq_eqi.mp c13
      refine lv_iconst (v := 1) hx hb dX11_isSlipAt_29 (by decide) ?_
      refine lv_goto (tgt := 34) hx hb dX11_isSlipAt_30 (by decide) ?_
      have hl15 : (1 : Int32).toInt = 1 := by decide
      exact hp_zret hx hb hr rfl hlocks hZ ⟨rfl, rfl, (by omega)⟩ dX11_isSlipAt_34

set_option maxHeartbeats 4000000 in
set_option maxRecDepth 100000 in
theorem x_mbits (l : Launch) (D : va_G) (cs : Nat → ClassId) (B : Nat) (G : hq_G) (V : hp_V) (n : Nat) (hI : hq_I cs G V) (kb : Nat) (qt : Nat) (e_fd : Int32) (e_sz : Int32) (mm : Nat → Int32) (hc0 : V (kb + 50) = some (.inr (1, [.ref (kb + 51), .ref (kb + 52), .int (e_fd), .ref (kb + 53), .ref (kb + 55), .ref (kb + 57), .ref (qt), .ref (kb), .ref (kb + 5), .int (e_sz), .ref (kb + 59), .ref (kb + 60), .ref (kb + 61)]))) (hc1 : V (kb + 60) = some (.inl (cs 1, 2, .inl (mm)))) (hes : 0 ≤ e_sz.toInt ∧ e_sz.toInt ≤ 2) : hp_M l yX1_missedBits cX1_missedBits 4 (some .long) ({ frames := 1, cells := 0, slots := 0, locals := 21 }) D cs B V n [.ref (kb + 50)] (hp_QL D cs B (fun r V' n' => n = n' ∧ V = V')) 0 0 := by
  refine hp_walk (R0 := RX1) (by decide) rfl ?_ (Nat.le_of_ble_eq_true rfl)
  intro p e s m below meth c ls hx hb hr hts hown hlocks hin hml hZ hl
  have hP : hq_I cs G V := hI
  have hl : lv_has ls 4 [(0, .ref (kb + 50))] := hl
  have hb_e_fd := hq_rng e_fd
  have hb_e_sz := hq_rng e_sz
  refine lv_lconst (v := 0) hx hb dX1_missedBits_0 (by decide) ?_
  refine lv_lstore_n (lv' := [(1, .long (0)), (0, .ref (kb + 50))]) hx hb dX1_missedBits_1 rfl hl (by decide) rfl (fun ls hl => ?_)
  refine lv_iconst (v := 0) hx hb dX1_missedBits_2 (by decide) ?_
  refine lv_istore_n (lv' := [(3, .int (0)), (1, .long (0)), (0, .ref (kb + 50))]) hx hb dX1_missedBits_3 rfl hl (by decide) rfl (fun ls hl => ?_)
  have hl1 : (0 : Int32).toInt = 0 := by decide
  suffices lp4 : ∀ (k9 : Nat) (H9 : Heap) (locs9 : List Loc) (ls : Array Slot) (bits : Int64) (i : Int32), (100 - i.toInt).toNat = k9 → hp_Z D cs B s V H9 n locs9 → hq_I cs G V → 0 ≤ i.toInt → i.toInt ≤ 2 → lv_has ls 4 [(3, .int (i)), (1, .long (bits)), (0, .ref (kb + 50))] → W p l e ({ frames := 1, cells := 0, slots := 0, locals := 21 }) s m ([.ref (kb + 50)] : List Value).toArray below meth c H9 locs9 0 0 (MQ below (hp_QL D cs B (fun r V' n' => n = n' ∧ V = V')) ([.ref (kb + 50)] : List Value).toArray s 0 0 (hp_F B)) (F0 m 4 ls []) from lp4 _ _ _ ls (0) (0) rfl hZ hP (by omega) (by omega) (lv_sub hl [0, 1, 2] rfl)
  intro k9
  induction k9 using Nat.strongRecOn with
  | _ k9 ih4 =>
    intro H9 locs9 ls bits i   hk4 hZ hP    hv2 hv3 hl
    have hb_i := hq_rng i
    refine lv_iload_n hx hb dX1_missedBits_4 rfl (lv_at hl 0 rfl) ?_
    refine lv_aload_n hx hb dX1_missedBits_5 rfl (lv_at hl 2 rfl) ?_
    refine hp_get (v := .int (e_sz)) hx hb hts hown hZ hc0 fl_X1_46 rfl dX1_missedBits_6 ?_
    refine lv_icmp_ge (tgt := 43) hx hb dX1_missedBits_9 (by decide) (fun c4 => ?_) (fun c4 => ?_)
    · have c4 : (e_sz).toInt ≤ (i).toInt := hq_lei.mp c4
      refine lv_lload_n hx hb dX1_missedBits_43 rfl (lv_at hl 1 rfl) ?_
      exact hp_lret hx hb hr hlocks hZ ⟨rfl, rfl⟩ dX1_missedBits_44
    · have c4 : ¬ (e_sz).toInt ≤ (i).toInt := fun h9 => c4 (hq_lei.mpr h9)
      refine lv_lload_n hx hb dX1_missedBits_12 rfl (lv_at hl 1 rfl) ?_
      refine lv_aload_n hx hb dX1_missedBits_13 rfl (lv_at hl 2 rfl) ?_
      refine hp_get (v := .ref (kb + 60)) hx hb hts hown hZ hc0 fl_X1_40 rfl dX1_missedBits_14 ?_
      refine lv_iload_n hx hb dX1_missedBits_17 rfl (lv_at hl 0 rfl) ?_
      refine hp_iald hx hb hZ hc1 (hq_in (by omega) (by omega)) dX1_missedBits_18 ?_
      refine lv_topi (fun y5 ey6 => ?_)
      have b7 := hq_rng y5
      refine lv_iconst (v := -1) hx hb dX1_missedBits_19 (by decide) ?_
      refine lv_icmp_ne (tgt := 27) hx hb dX1_missedBits_20 (by decide) (fun c8 => ?_) (fun c8 => ?_)
      · have c8 : ¬ (y5).toInt = (-1 : Int) := fun h9 => c8 (hq_eqi.mpr h9)
        refine lv_lconst (v := 1) hx hb dX1_missedBits_27 (by decide) ?_
        refine lv_aload_n hx hb dX1_missedBits_28 rfl (lv_at hl 2 rfl) ?_
        refine hp_get (v := .ref (kb + 60)) hx hb hts hown hZ hc0 fl_X1_40 rfl dX1_missedBits_29 ?_
        refine lv_iload_n hx hb dX1_missedBits_32 rfl (lv_at hl 0 rfl) ?_
        refine hp_iald hx hb hZ hc1 (hq_in (by omega) (by omega)) dX1_missedBits_33 ?_
        refine lv_topi (fun y9 ey10 => ?_)
        have b11 := hq_rng y9
        refine lv_lshl (v := (1 : Int64) <<< ((y9 : Int32).toInt64 &&& 63)) hx hb dX1_missedBits_34 rfl ?_
        refine lv_topl (fun y12 ey13 => ?_)
        refine lv_lor hx hb dX1_missedBits_35 ?_
        refine lv_topl (fun y14 ey15 => ?_)
        refine lv_lstore_n (lv' := [(1, .long (y14)), (3, .int (i)), (0, .ref (kb + 50))]) hx hb dX1_missedBits_36 rfl hl (by decide) rfl (fun ls hl => ?_)
        obtain ⟨y16, ey17⟩ : ∃ y : Int32, y = i + (1) := ⟨_, rfl⟩
        obtain ⟨k18, hk19, b20, b21⟩ := hq_add (i) (1)
        rw [← ey17] at hk19 b20 b21
        have hk19 : (y16).toInt = (i).toInt + (1) + k18 * 4294967296 := hk19
        obtain rfl : k18 = 0 := by omega
        refine lv_iinc (v := y16) (lv' := [(3, .int (y16)), (1, .long (y14)), (0, .ref (kb + 50))]) hx hb dX1_missedBits_37 hl (k := 1) rfl (by rw [ey17]; rfl) (by decide) rfl (fun ls hl => ?_)
        refine lv_goto (tgt := 4) hx hb dX1_missedBits_40 (by decide) ?_
        exact ih4 _ (by omega) _ _ ls (y14) (y16) rfl hZ hP (by omega) (by omega) (lv_sub hl [0, 1, 2] rfl)
      · have c8 : (y5).toInt = (-1 : Int) := hq_eqi.mp c8
        refine lv_lconst (v := 0) hx hb dX1_missedBits_23 (by decide) ?_
        refine lv_goto (tgt := 35) hx hb dX1_missedBits_24 (by decide) ?_
        refine lv_lor hx hb dX1_missedBits_35 ?_
        refine lv_topl (fun y22 ey23 => ?_)
        refine lv_lstore_n (lv' := [(1, .long (y22)), (3, .int (i)), (0, .ref (kb + 50))]) hx hb dX1_missedBits_36 rfl hl (by decide) rfl (fun ls hl => ?_)
        obtain ⟨y24, ey25⟩ : ∃ y : Int32, y = i + (1) := ⟨_, rfl⟩
        obtain ⟨k26, hk27, b28, b29⟩ := hq_add (i) (1)
        rw [← ey25] at hk27 b28 b29
        have hk27 : (y24).toInt = (i).toInt + (1) + k26 * 4294967296 := hk27
        obtain rfl : k26 = 0 := by omega
        refine lv_iinc (v := y24) (lv' := [(3, .int (y24)), (1, .long (y22)), (0, .ref (kb + 50))]) hx hb dX1_missedBits_37 hl (k := 1) rfl (by rw [ey25]; rfl) (by decide) rfl (fun ls hl => ?_)
        refine lv_goto (tgt := 4) hx hb dX1_missedBits_40 (by decide) ?_
        exact ih4 _ (by omega) _ _ ls (y22) (y24) rfl hZ hP (by omega) (by omega) (lv_sub hl [0, 1, 2] rfl)

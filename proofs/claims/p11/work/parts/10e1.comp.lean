set_option maxHeartbeats 4000000 in
set_option maxRecDepth 100000 in
theorem x_isOfVerb (l : Launch) (D : va_G) (cs : Nat → ClassId) (B : Nat) (G : hq_G) (V : hp_V) (n : Nat) (hI : hq_I cs G V) (la : Nat) (ak : Int32) (ao : Int32) (at9 : Int32) (ap : Int32) (ah : Int32) (aht : Int32) (apa : Int32) (ala : Int32) (hc0 : V (la) = some (.inr (5, [.int (ak), .int (ao), .int (at9), .int (ap), .int (ah), .int (aht), .int (apa), .int (ala), .ref (la + 1), .ref (la + 3)]))) (hk1 : ak.toInt = 1) : hp_M l yX5_isOfVerb cX5_isOfVerb 1 (some .boolean) ({ frames := 1, cells := 0, slots := 0, locals := 21 }) D cs B V n [.ref (la)] (hp_QI D cs B (fun r V' n' => n = n' ∧ V = V' ∧ (r.toInt = 0))) 0 0 := by
  refine hp_walk (R0 := RX5) (by decide) rfl ?_ (Nat.le_of_ble_eq_true rfl)
  intro p e s m below meth c ls hx hb hr hts hown hlocks hin hml hZ hl
  have hP : hq_I cs G V := hI
  have hl : lv_has ls 1 [(0, .ref (la))] := hl
  have hb_ak := hq_rng ak
  have hb_ao := hq_rng ao
  have hb_at9 := hq_rng at9
  have hb_ap := hq_rng ap
  have hb_ah := hq_rng ah
  have hb_aht := hq_rng aht
  have hb_apa := hq_rng apa
  have hb_ala := hq_rng ala
  refine lv_aload_n hx hb dX5_isOfVerb_0 rfl (lv_at hl 0 rfl) ?_
  refine hp_get (v := .int (ak)) hx hb hts hown hZ hc0 fl_X5_23 rfl dX5_isOfVerb_1 ?_
  refine lv_iconst (v := 4) hx hb dX5_isOfVerb_4 (by decide) ?_
  refine lv_icmp_eq (tgt := 16) hx hb dX5_isOfVerb_5 (by decide) (fun c1 => ?_) (fun c1 => ?_)
  · have c1 : (ak).toInt = (4 : Int) := hq_eqi.mp c1
    refine lv_iconst (v := 1) hx hb dX5_isOfVerb_16 (by decide) ?_
    refine lv_goto (tgt := 21) hx hb dX5_isOfVerb_17 (by decide) ?_
    have hl2 : (1 : Int32).toInt = 1 := by decide
    exact hp_zret hx hb hr rfl hlocks hZ ⟨rfl, rfl, (by omega)⟩ dX5_isOfVerb_21
  · have c1 : ¬ (ak).toInt = (4 : Int) := fun h9 => c1 (hq_eqi.mpr h9)
    refine lv_aload_n hx hb dX5_isOfVerb_8 rfl (lv_at hl 0 rfl) ?_
    refine hp_get (v := .int (ak)) hx hb hts hown hZ hc0 fl_X5_23 rfl dX5_isOfVerb_9 ?_
    refine lv_iconst (v := 5) hx hb dX5_isOfVerb_12 (by decide) ?_
    refine lv_icmp_ne (tgt := 20) hx hb dX5_isOfVerb_13 (by decide) (fun c3 => ?_) (fun c3 => ?_)
    · have c3 : ¬ (ak).toInt = (5 : Int) := fun h9 => c3 (hq_eqi.mpr h9)
      refine lv_iconst (v := 0) hx hb dX5_isOfVerb_20 (by decide) ?_
      have hl4 : (0 : Int32).toInt = 0 := by decide
      exact hp_zret hx hb hr rfl hlocks hZ ⟨rfl, rfl, (by omega)⟩ dX5_isOfVerb_21
    · have c3 : (ak).toInt = (5 : Int) := hq_eqi.mp c3
      refine lv_iconst (v := 1) hx hb dX5_isOfVerb_16 (by decide) ?_
      refine lv_goto (tgt := 21) hx hb dX5_isOfVerb_17 (by decide) ?_
      have hl5 : (1 : Int32).toInt = 1 := by decide
      exact hp_zret hx hb hr rfl hlocks hZ ⟨rfl, rfl, (by omega)⟩ dX5_isOfVerb_21

set_option maxHeartbeats 4000000 in
set_option maxRecDepth 100000 in
theorem x_fits (l : Launch) (D : va_G) (cs : Nat → ClassId) (B : Nat) (G : hq_G) (V : hp_V) (n : Nat) (hI : hq_I cs G V) (qt : Nat) (la : Nat) (c9 : Int) (i : Int32) (v : Int32) (te : Int32) (pe : Int32) (bc : Int32) (bv : Int32) (bl : Int32) (ak : Int32) (ao : Int32) (at9 : Int32) (ap : Int32) (ah : Int32) (aht : Int32) (apa : Int32) (ala : Int32) (g3 : Nat → Option Nat) (vf : Nat → Int32) (hc0 : V (qt) = some (.inr (0, [.ref (qt + 1), .int (bc), .ref (qt + 14), .ref (qt + 75), .int (bv), .ref (qt + 76), .int (bl)]))) (hc1 : V (la) = some (.inr (5, [.int (ak), .int (ao), .int (at9), .int (ap), .int (ah), .int (aht), .int (apa), .int (ala), .ref (la + 1), .ref (la + 3)]))) (hc2 : V (qt + 76) = some (.inl (cs 6, 60, .inr (.inr (.inr (.inr (g3))))))) (hc3 : V (qt + 75) = some (.inl (cs 1, 30, .inl (vf)))) (hi : 0 ≤ i.toInt ∧ i.toInt < 60) (hv : 0 ≤ v.toInt ∧ v.toInt < 30) (hla : g3 i.toNatClampNeg = some la) (hk1 : ak.toInt = 1) (hc9 : (vf v.toNatClampNeg).toInt = c9) : hp_M l yX0_fits cX0_fits 6 (some .boolean) ({ frames := 2, cells := 0, slots := 0, locals := 41 }) D cs B V n [.ref (qt), .int (i), .int (v), .int (te), .int (pe)] (hp_QI D cs B (fun r V' n' => n = n' ∧ V = V' ∧ ((r.toInt = 1 ∧ (at9.toInt = te.toInt ∧ (ap.toInt = -1 ∨ ap.toInt = pe.toInt) ∧ (ao.toInt = -1 ∨ ao.toInt = c9))) ∨ (r.toInt = 0 ∧ ¬ (at9.toInt = te.toInt ∧ (ap.toInt = -1 ∨ ap.toInt = pe.toInt) ∧ (ao.toInt = -1 ∨ ao.toInt = c9)))))) 0 0 := by
  refine hp_walk (R0 := RX0) (by decide) rfl ?_ (Nat.le_of_ble_eq_true rfl)
  intro p e s m below meth c ls hx hb hr hts hown hlocks hin hml hZ hl
  have hP : hq_I cs G V := hI
  have hl : lv_has ls 6 [(0, .ref (qt)), (1, .int (i)), (2, .int (v)), (3, .int (te)), (4, .int (pe))] := hl
  have hb_i := hq_rng i
  have hb_v := hq_rng v
  have hb_te := hq_rng te
  have hb_pe := hq_rng pe
  have hb_bc := hq_rng bc
  have hb_bv := hq_rng bv
  have hb_bl := hq_rng bl
  have hb_ak := hq_rng ak
  have hb_ao := hq_rng ao
  have hb_at9 := hq_rng at9
  have hb_ap := hq_rng ap
  have hb_ah := hq_rng ah
  have hb_aht := hq_rng aht
  have hb_apa := hq_rng apa
  have hb_ala := hq_rng ala
  refine lv_aload_n hx hb dX0_fits_0 rfl (lv_at hl 0 rfl) ?_
  refine hp_get (v := .ref (qt + 76)) hx hb hts hown hZ hc0 fl_X0_29 rfl dX0_fits_1 ?_
  refine lv_iload_n hx hb dX0_fits_4 rfl (lv_at hl 1 rfl) ?_
  refine hp_aald (v := .ref (la)) hx hb hZ 6 hc2 rfl (hq_in (by omega) (by omega)) (by rw [hla]; rfl) dX0_fits_5 ?_
  refine lv_astore (lv' := [(5, .ref (la)), (0, .ref (qt)), (1, .int (i)), (2, .int (v)), (3, .int (te)), (4, .int (pe))]) hx hb dX0_fits_6 hl (by decide) rfl (fun ls hl => ?_)
  refine lv_aload hx hb dX0_fits_8 (lv_at hl 0 rfl) ?_
  refine hp_get (v := .int (at9)) hx hb hts hown hZ hc1 fl_X0_48 rfl dX0_fits_10 ?_
  refine lv_iload_n hx hb dX0_fits_13 rfl (lv_at hl 4 rfl) ?_
  refine lv_icmp_ne (tgt := 36) hx hb dX0_fits_14 (by decide) (fun c1 => ?_) (fun c1 => ?_)
  · have c1 : ¬ (at9).toInt = (te).toInt := fun h9 => c1 (hq_eqi.mpr h9)
    refine lv_iconst (v := 0) hx hb dX0_fits_36 (by decide) ?_
    have hl2 : (0 : Int32).toInt = 0 := by decide
    exact hp_zret hx hb hr rfl hlocks hZ ⟨rfl, rfl, (by omega)⟩ dX0_fits_37
  · have c1 : (at9).toInt = (te).toInt := hq_eqi.mp c1
    refine lv_aload hx hb dX0_fits_17 (lv_at hl 0 rfl) ?_
    refine hp_get (v := .int (ap)) hx hb hts hown hZ hc1 fl_X0_51 rfl dX0_fits_19 ?_
    refine lv_iconst (v := -1) hx hb dX0_fits_22 (by decide) ?_
    refine lv_icmp_eq (tgt := 38) hx hb dX0_fits_23 (by decide) (fun c3 => ?_) (fun c3 => ?_)
    · have c3 : (ap).toInt = (-1 : Int) := hq_eqi.mp c3
      refine lv_aload hx hb dX0_fits_38 (lv_at hl 0 rfl) ?_
      refine hp_calli (hp_runV (As := []) (rest := []) hx hb hml hown hts (x_isOfVerb l D cs B G V n hP (la) (ak) (ao) (at9) (ap) (ah) (aht) (apa) (ala)  hc1  hk1) hZ hc1 cv_X0_54 rfl rfl ⟨Nat.le_of_ble_eq_true rfl, Nat.le_of_ble_eq_true rfl⟩ rfl hl.1 rfl (Nat.le_of_ble_eq_true rfl) dX0_fits_40 ⟨(Nat.le_of_ble_eq_true rfl), (Nat.le_of_ble_eq_true rfl)⟩) hZ (fun r7 V4 n5 _ _ hw6 hZ => ?_)
      obtain ⟨rfl, rfl, hp10⟩ := hw6
      have b11 := hq_rng r7
      have hl12 : (0 : Int32).toInt = 0 := by decide
      refine lv_if_eq (tgt := 63) hx hb dX0_fits_43 (by decide) (fun c13 => ?_) (fun c13 => absurd ((Int32.toInt_inj.mp (by omega) : r7 = 0)) c13)
      refine lv_aload hx hb dX0_fits_63 (lv_at hl 0 rfl) ?_
      refine hp_get (v := .int (ao)) hx hb hts hown hZ hc1 fl_X0_58 rfl dX0_fits_65 ?_
      refine lv_iconst (v := -1) hx hb dX0_fits_68 (by decide) ?_
      refine lv_icmp_eq (tgt := 86) hx hb dX0_fits_69 (by decide) (fun c14 => ?_) (fun c14 => ?_)
      · have c14 : (ao).toInt = (-1 : Int) := hq_eqi.mp c14
        refine lv_iconst (v := 1) hx hb dX0_fits_86 (by decide) ?_
        refine lv_goto (tgt := 91) hx hb dX0_fits_87 (by decide) ?_
        have hl15 : (1 : Int32).toInt = 1 := by decide
        exact hp_zret hx hb hr rfl hlocks hZ ⟨rfl, rfl, (by omega)⟩ dX0_fits_91
      · have c14 : ¬ (ao).toInt = (-1 : Int) := fun h9 => c14 (hq_eqi.mpr h9)
        refine lv_aload hx hb dX0_fits_72 (lv_at hl 0 rfl) ?_
        refine hp_get (v := .int (ao)) hx hb hts hown hZ hc1 fl_X0_58 rfl dX0_fits_74 ?_
        refine lv_aload_n hx hb dX0_fits_77 rfl (lv_at hl 1 rfl) ?_
        refine hp_get (v := .ref (qt + 75)) hx hb hts hown hZ hc0 fl_X0_23 rfl dX0_fits_78 ?_
        refine lv_iload_n hx hb dX0_fits_81 rfl (lv_at hl 3 rfl) ?_
        refine hp_iald hx hb hZ hc3 (hq_in (by omega) (by omega)) dX0_fits_82 ?_
        refine lv_topi (fun y16 ey17 => ?_)
        have b18 := hq_rng y16
        have b19 : (y16).toInt = c9 := by rw [ey17]; exact hc9
        refine lv_icmp_ne (tgt := 90) hx hb dX0_fits_83 (by decide) (fun c20 => ?_) (fun c20 => ?_)
        · have c20 : ¬ (ao).toInt = (y16).toInt := fun h9 => c20 (hq_eqi.mpr h9)
          refine lv_iconst (v := 0) hx hb dX0_fits_90 (by decide) ?_
          have hl21 : (0 : Int32).toInt = 0 := by decide
          exact hp_zret hx hb hr rfl hlocks hZ ⟨rfl, rfl, (by omega)⟩ dX0_fits_91
        · have c20 : (ao).toInt = (y16).toInt := hq_eqi.mp c20
          refine lv_iconst (v := 1) hx hb dX0_fits_86 (by decide) ?_
          refine lv_goto (tgt := 91) hx hb dX0_fits_87 (by decide) ?_
          have hl22 : (1 : Int32).toInt = 1 := by decide
          exact hp_zret hx hb hr rfl hlocks hZ ⟨rfl, rfl, (by omega)⟩ dX0_fits_91
    · have c3 : ¬ (ap).toInt = (-1 : Int) := fun h9 => c3 (hq_eqi.mpr h9)
      refine lv_aload hx hb dX0_fits_26 (lv_at hl 0 rfl) ?_
      refine hp_get (v := .int (ap)) hx hb hts hown hZ hc1 fl_X0_51 rfl dX0_fits_28 ?_
      refine lv_iload hx hb dX0_fits_31 (lv_at hl 5 rfl) ?_
      refine lv_icmp_eq (tgt := 38) hx hb dX0_fits_33 (by decide) (fun c23 => ?_) (fun c23 => ?_)
      · have c23 : (ap).toInt = (pe).toInt := hq_eqi.mp c23
        refine lv_aload hx hb dX0_fits_38 (lv_at hl 0 rfl) ?_
        refine hp_calli (hp_runV (As := []) (rest := []) hx hb hml hown hts (x_isOfVerb l D cs B G V n hP (la) (ak) (ao) (at9) (ap) (ah) (aht) (apa) (ala)  hc1  hk1) hZ hc1 cv_X0_54 rfl rfl ⟨Nat.le_of_ble_eq_true rfl, Nat.le_of_ble_eq_true rfl⟩ rfl hl.1 rfl (Nat.le_of_ble_eq_true rfl) dX0_fits_40 ⟨(Nat.le_of_ble_eq_true rfl), (Nat.le_of_ble_eq_true rfl)⟩) hZ (fun r27 V24 n25 _ _ hw26 hZ => ?_)
        obtain ⟨rfl, rfl, hp30⟩ := hw26
        have b31 := hq_rng r27
        have hl32 : (0 : Int32).toInt = 0 := by decide
        refine lv_if_eq (tgt := 63) hx hb dX0_fits_43 (by decide) (fun c33 => ?_) (fun c33 => absurd ((Int32.toInt_inj.mp (by omega) : r27 = 0)) c33)
        refine lv_aload hx hb dX0_fits_63 (lv_at hl 0 rfl) ?_
        refine hp_get (v := .int (ao)) hx hb hts hown hZ hc1 fl_X0_58 rfl dX0_fits_65 ?_
        refine lv_iconst (v := -1) hx hb dX0_fits_68 (by decide) ?_
        refine lv_icmp_eq (tgt := 86) hx hb dX0_fits_69 (by decide) (fun c34 => ?_) (fun c34 => ?_)
        · have c34 : (ao).toInt = (-1 : Int) := hq_eqi.mp c34
          refine lv_iconst (v := 1) hx hb dX0_fits_86 (by decide) ?_
          refine lv_goto (tgt := 91) hx hb dX0_fits_87 (by decide) ?_
          have hl35 : (1 : Int32).toInt = 1 := by decide
          exact hp_zret hx hb hr rfl hlocks hZ ⟨rfl, rfl, (by omega)⟩ dX0_fits_91
        · have c34 : ¬ (ao).toInt = (-1 : Int) := fun h9 => c34 (hq_eqi.mpr h9)
          refine lv_aload hx hb dX0_fits_72 (lv_at hl 0 rfl) ?_
          refine hp_get (v := .int (ao)) hx hb hts hown hZ hc1 fl_X0_58 rfl dX0_fits_74 ?_
          refine lv_aload_n hx hb dX0_fits_77 rfl (lv_at hl 1 rfl) ?_
          refine hp_get (v := .ref (qt + 75)) hx hb hts hown hZ hc0 fl_X0_23 rfl dX0_fits_78 ?_
          refine lv_iload_n hx hb dX0_fits_81 rfl (lv_at hl 3 rfl) ?_
          refine hp_iald hx hb hZ hc3 (hq_in (by omega) (by omega)) dX0_fits_82 ?_
          refine lv_topi (fun y36 ey37 => ?_)
          have b38 := hq_rng y36
          have b39 : (y36).toInt = c9 := by rw [ey37]; exact hc9
          refine lv_icmp_ne (tgt := 90) hx hb dX0_fits_83 (by decide) (fun c40 => ?_) (fun c40 => ?_)
          · have c40 : ¬ (ao).toInt = (y36).toInt := fun h9 => c40 (hq_eqi.mpr h9)
            refine lv_iconst (v := 0) hx hb dX0_fits_90 (by decide) ?_
            have hl41 : (0 : Int32).toInt = 0 := by decide
            exact hp_zret hx hb hr rfl hlocks hZ ⟨rfl, rfl, (by omega)⟩ dX0_fits_91
          · have c40 : (ao).toInt = (y36).toInt := hq_eqi.mp c40
            refine lv_iconst (v := 1) hx hb dX0_fits_86 (by decide) ?_
            refine lv_goto (tgt := 91) hx hb dX0_fits_87 (by decide) ?_
            have hl42 : (1 : Int32).toInt = 1 := by decide
            exact hp_zret hx hb hr rfl hlocks hZ ⟨rfl, rfl, (by omega)⟩ dX0_fits_91
      · have c23 : ¬ (ap).toInt = (pe).toInt := fun h9 => c23 (hq_eqi.mpr h9)
        refine lv_iconst (v := 0) hx hb dX0_fits_36 (by decide) ?_
        have hl43 : (0 : Int32).toInt = 0 := by decide
        exact hp_zret hx hb hr rfl hlocks hZ ⟨rfl, rfl, (by omega)⟩ dX0_fits_37

set_option maxHeartbeats 4000000 in
set_option maxRecDepth 100000 in
theorem x_isPlace (l : Launch) (D : va_G) (cs : Nat → ClassId) (B : Nat) (G : hq_G) (V : hp_V) (n : Nat) (hI : hq_I cs G V) (a : Nat) (kb : Nat) (qt : Nat) (qb : Nat) (v : Int32) (te : Int32) (pe : Int32) (c_fs : Int32) (bc : Int32) (bv : Int32) (bl : Int32) (hc0 : V (a) = some (.inr (11, [.ref (kb), .ref (kb + 2), .ref (kb + 5), .ref (kb + 46), .ref (kb + 50), .ref (kb + 62), .ref (kb + 87), .int (c_fs), .ref (qt), .ref (qb)]))) (hc1 : V (qt) = some (.inr (0, [.ref (qt + 1), .int (bc), .ref (qt + 14), .ref (qt + 75), .int (bv), .ref (qt + 76), .int (bl)]))) : hp_M l yX11_isPlace cX11_isPlace 4 (some .boolean) ({ frames := 1, cells := 0, slots := 0, locals := 21 }) D cs B V n [.ref (a), .int (v), .int (te), .int (pe)] (hp_QI D cs B (fun r V' n' => n = n' ∧ V = V' ∧ ((r.toInt = 1 ∧ (0 ≤ v.toInt ∧ v.toInt < bv.toInt ∧ 0 ≤ te.toInt ∧ te.toInt < 5 ∧ 0 ≤ pe.toInt ∧ pe.toInt < 6)) ∨ (r.toInt = 0 ∧ ¬ (0 ≤ v.toInt ∧ v.toInt < bv.toInt ∧ 0 ≤ te.toInt ∧ te.toInt < 5 ∧ 0 ≤ pe.toInt ∧ pe.toInt < 6))))) 0 0 := by
  refine hp_walk (R0 := RX11) (by decide) rfl ?_ (Nat.le_of_ble_eq_true rfl)
  intro p e s m below meth c ls hx hb hr hts hown hlocks hin hml hZ hl
  have hP : hq_I cs G V := hI
  have hl : lv_has ls 4 [(0, .ref (a)), (1, .int (v)), (2, .int (te)), (3, .int (pe))] := hl
  have hb_v := hq_rng v
  have hb_te := hq_rng te
  have hb_pe := hq_rng pe
  have hb_c_fs := hq_rng c_fs
  have hb_bc := hq_rng bc
  have hb_bv := hq_rng bv
  have hb_bl := hq_rng bl
  refine lv_iload_n hx hb dX11_isPlace_0 rfl (lv_at hl 1 rfl) ?_
  refine lv_if_lt (tgt := 38) hx hb dX11_isPlace_1 (by decide) (fun c1 => ?_) (fun c1 => ?_)
  · have c1 : (v).toInt < (0 : Int) := hq_lti.mp c1
    refine lv_iconst (v := 0) hx hb dX11_isPlace_38 (by decide) ?_
    have hl2 : (0 : Int32).toInt = 0 := by decide
    exact hp_zret hx hb hr rfl hlocks hZ ⟨rfl, rfl, (by omega)⟩ dX11_isPlace_39
  · have c1 : ¬ (v).toInt < (0 : Int) := fun h9 => c1 (hq_lti.mpr h9)
    refine lv_iload_n hx hb dX11_isPlace_4 rfl (lv_at hl 1 rfl) ?_
    refine lv_aload_n hx hb dX11_isPlace_5 rfl (lv_at hl 0 rfl) ?_
    refine hp_get (v := .ref (qt)) hx hb hts hown hZ hc0 fl_X11_64 rfl dX11_isPlace_6 ?_
    refine hp_get (v := .int (bv)) hx hb hts hown hZ hc1 fl_X11_96 rfl dX11_isPlace_9 ?_
    refine lv_icmp_ge (tgt := 38) hx hb dX11_isPlace_12 (by decide) (fun c3 => ?_) (fun c3 => ?_)
    · have c3 : (bv).toInt ≤ (v).toInt := hq_lei.mp c3
      refine lv_iconst (v := 0) hx hb dX11_isPlace_38 (by decide) ?_
      have hl4 : (0 : Int32).toInt = 0 := by decide
      exact hp_zret hx hb hr rfl hlocks hZ ⟨rfl, rfl, (by omega)⟩ dX11_isPlace_39
    · have c3 : ¬ (bv).toInt ≤ (v).toInt := fun h9 => c3 (hq_lei.mpr h9)
      refine lv_iload_n hx hb dX11_isPlace_15 rfl (lv_at hl 2 rfl) ?_
      refine lv_if_lt (tgt := 38) hx hb dX11_isPlace_16 (by decide) (fun c5 => ?_) (fun c5 => ?_)
      · have c5 : (te).toInt < (0 : Int) := hq_lti.mp c5
        refine lv_iconst (v := 0) hx hb dX11_isPlace_38 (by decide) ?_
        have hl6 : (0 : Int32).toInt = 0 := by decide
        exact hp_zret hx hb hr rfl hlocks hZ ⟨rfl, rfl, (by omega)⟩ dX11_isPlace_39
      · have c5 : ¬ (te).toInt < (0 : Int) := fun h9 => c5 (hq_lti.mpr h9)
        refine lv_iload_n hx hb dX11_isPlace_19 rfl (lv_at hl 2 rfl) ?_
        refine lv_iconst (v := 5) hx hb dX11_isPlace_20 (by decide) ?_
        refine lv_icmp_ge (tgt := 38) hx hb dX11_isPlace_21 (by decide) (fun c7 => ?_) (fun c7 => ?_)
        · have c7 : (5 : Int) ≤ (te).toInt := hq_lei.mp c7
          refine lv_iconst (v := 0) hx hb dX11_isPlace_38 (by decide) ?_
          have hl8 : (0 : Int32).toInt = 0 := by decide
          exact hp_zret hx hb hr rfl hlocks hZ ⟨rfl, rfl, (by omega)⟩ dX11_isPlace_39
        · have c7 : ¬ (5 : Int) ≤ (te).toInt := fun h9 => c7 (hq_lei.mpr h9)
          refine lv_iload_n hx hb dX11_isPlace_24 rfl (lv_at hl 3 rfl) ?_
          refine lv_if_lt (tgt := 38) hx hb dX11_isPlace_25 (by decide) (fun c9 => ?_) (fun c9 => ?_)
          · have c9 : (pe).toInt < (0 : Int) := hq_lti.mp c9
            refine lv_iconst (v := 0) hx hb dX11_isPlace_38 (by decide) ?_
            have hl10 : (0 : Int32).toInt = 0 := by decide
            exact hp_zret hx hb hr rfl hlocks hZ ⟨rfl, rfl, (by omega)⟩ dX11_isPlace_39
          · have c9 : ¬ (pe).toInt < (0 : Int) := fun h9 => c9 (hq_lti.mpr h9)
            refine lv_iload_n hx hb dX11_isPlace_28 rfl (lv_at hl 3 rfl) ?_
            refine lv_bipush (v := 6) hx hb dX11_isPlace_29 (by decide) ?_
            refine lv_icmp_ge (tgt := 38) hx hb dX11_isPlace_31 (by decide) (fun c11 => ?_) (fun c11 => ?_)
            · have c11 : (6 : Int) ≤ (pe).toInt := hq_lei.mp c11
              refine lv_iconst (v := 0) hx hb dX11_isPlace_38 (by decide) ?_
              have hl12 : (0 : Int32).toInt = 0 := by decide
              exact hp_zret hx hb hr rfl hlocks hZ ⟨rfl, rfl, (by omega)⟩ dX11_isPlace_39
            · have c11 : ¬ (6 : Int) ≤ (pe).toInt := fun h9 => c11 (hq_lei.mpr h9)
              refine lv_iconst (v := 1) hx hb dX11_isPlace_34 (by decide) ?_
              refine lv_goto (tgt := 39) hx hb dX11_isPlace_35 (by decide) ?_
              have hl13 : (1 : Int32).toInt = 1 := by decide
              exact hp_zret hx hb hr rfl hlocks hZ ⟨rfl, rfl, (by omega)⟩ dX11_isPlace_39

set_option maxHeartbeats 4000000 in
set_option maxRecDepth 100000 in
theorem x_rivals (l : Launch) (D : va_G) (cs : Nat → ClassId) (B : Nat) (G : hq_G) (V : hp_V) (n : Nat) (hI : hq_I cs G V) (a : Nat) (kb : Nat) (qt : Nat) (qb : Nat) (w : sp_W) (bk : sp_B) (v : Int32) (te : Int32) (pe : Int32) (c_fs : Int32) (hc0 : V (a) = some (.inr (11, [.ref (kb), .ref (kb + 2), .ref (kb + 5), .ref (kb + 46), .ref (kb + 50), .ref (kb + 62), .ref (kb + 87), .int (c_fs), .ref (qt), .ref (qb)]))) (hBx : hx_BK cs V qt w bk) (hBS : hx_BS cs V qt) (hgd : sp_good w bk) : hp_M l yX11_rivals cX11_rivals 6 (some .int) ({ frames := 3, cells := 0, slots := 0, locals := 66 }) D cs B V n [.ref (a), .int (v), .int (te), .int (pe)] (hp_QI D cs B (fun r V' n' => n = n' ∧ V = V' ∧ (r.toInt = sp_rivt bk v.toInt te.toInt pe.toInt))) 0 0 := by
  refine hp_walk (R0 := RX11) (by decide) rfl ?_ (Nat.le_of_ble_eq_true rfl)
  intro p e s m below meth c ls hx hb hr hts hown hlocks hin hml hZ hl
  have hP : hq_I cs G V := hI
  have hl : lv_has ls 6 [(0, .ref (a)), (1, .int (v)), (2, .int (te)), (3, .int (pe))] := hl
  have hb_v := hq_rng v
  have hb_te := hq_rng te
  have hb_pe := hq_rng pe
  have hb_c_fs := hq_rng c_fs
  obtain ⟨⟨bc, bv, bl, hbk1, hbc, hbv, hbl⟩, -, hNV, ⟨vf, hvf, hvl, hVC⟩, hLL⟩ := id hBx
  obtain ⟨⟨g1, hg1, hr1⟩, ⟨g2, hg2, hr2⟩, ⟨g3, hg3, hr3⟩⟩ := id hBS
  have hb_bc := hq_rng bc
  have hb_bv := hq_rng bv
  have hb_bl := hq_rng bl
  have hlv9 := hNV.1
  have hll9 := hLL.1
  refine lv_aload_n hx hb dX11_rivals_0 rfl (lv_at hl 0 rfl) ?_
  refine lv_iload_n hx hb dX11_rivals_1 rfl (lv_at hl 1 rfl) ?_
  refine lv_iload_n hx hb dX11_rivals_2 rfl (lv_at hl 2 rfl) ?_
  refine lv_iload_n hx hb dX11_rivals_3 rfl (lv_at hl 3 rfl) ?_
  refine hp_calli (hp_runV (As := [.int (v), .int (te), .int (pe)]) (rest := []) hx hb hml hown hts (x_isPlace l D cs B G V n hP (a) (kb) (qt) (qb) (v) (te) (pe) (c_fs) (bc) (bv) (bl)  hc0 hbk1  ) hZ hc0 cv_X11_141 rfl rfl ⟨Nat.le_of_ble_eq_true rfl, Nat.le_of_ble_eq_true rfl⟩ rfl hl.1 rfl (Nat.le_of_ble_eq_true rfl) dX11_rivals_4 ⟨(Nat.le_of_ble_eq_true rfl), (Nat.le_of_ble_eq_true rfl)⟩) hZ (fun r4 V1 n2 _ _ hw3 hZ => ?_)
  obtain ⟨rfl, rfl, hp7⟩ := hw3
  have b8 := hq_rng r4
  refine lv_if_ne (tgt := 13) hx hb dX11_rivals_7 (by decide) (fun c9 => ?_) (fun c9 => ?_)
  · have c9 : ¬ (r4).toInt = (0 : Int) := fun h9 => c9 (hq_eqi.mpr h9)
    have hvv : (v.toNatClampNeg : Int) = v.toInt := (hq_nn (by omega)).1.symm
    obtain ⟨c9, hc9⟩ : ∃ t, bk.2.2.1[v.toNatClampNeg]? = some t := ⟨_, List.getElem?_eq_getElem (by omega)⟩
    have hcd : bk.2.2.1.getD v.toInt.toNat 0 = c9 := sp_getD hc9
    have hvc := hVC _ _ hc9
    refine lv_iconst (v := 0) hx hb dX11_rivals_13 (by decide) ?_
    refine lv_istore (lv' := [(4, .int (0)), (0, .ref (a)), (1, .int (v)), (2, .int (te)), (3, .int (pe))]) hx hb dX11_rivals_14 hl (by decide) rfl (fun ls hl => ?_)
    refine lv_iconst (v := 0) hx hb dX11_rivals_16 (by decide) ?_
    refine lv_istore (lv' := [(5, .int (0)), (4, .int (0)), (0, .ref (a)), (1, .int (v)), (2, .int (te)), (3, .int (pe))]) hx hb dX11_rivals_17 hl (by decide) rfl (fun ls hl => ?_)
    have hl10 : (0 : Int32).toInt = 0 := by decide
    have hl11 : (0 : Int32).toInt = 0 := by decide
    suffices lp19 : ∀ (k9 : Nat) (H9 : Heap) (locs9 : List Loc) (ls : Array Slot) (no : Int32) (i : Int32), (200 - i.toInt).toNat = k9 → hp_Z D cs B s V H9 n locs9 → hq_I cs G V → 0 ≤ i.toInt → i.toInt ≤ bk.2.2.2.length → 0 ≤ no.toInt ∧ no.toInt ≤ i.toInt → (sp_riv (bk.2.2.1.getD v.toInt.toNat 0) te.toInt pe.toInt (bk.2.2.2.drop i.toNatClampNeg) no.toInt = sp_riv (bk.2.2.1.getD v.toInt.toNat 0) te.toInt pe.toInt bk.2.2.2 0) → lv_has ls 6 [(5, .int (i)), (4, .int (no)), (0, .ref (a)), (1, .int (v)), (2, .int (te)), (3, .int (pe))] → W p l e ({ frames := 3, cells := 0, slots := 0, locals := 66 }) s m ([.ref (a), .int (v), .int (te), .int (pe)] : List Value).toArray below meth c H9 locs9 0 0 (MQ below (hp_QI D cs B (fun r V' n' => n = n' ∧ V = V' ∧ (r.toInt = sp_rivt bk v.toInt te.toInt pe.toInt))) ([.ref (a), .int (v), .int (te), .int (pe)] : List Value).toArray s 0 0 (hp_F B)) (F0 m 19 ls []) from lp19 _ _ _ ls (0) (0) rfl hZ hP (by omega) (by omega) (by omega) (rfl) (lv_sub hl [0, 1, 2, 3, 4, 5] rfl)
    intro k9
    induction k9 using Nat.strongRecOn with
    | _ k9 ih19 =>
      intro H9 locs9 ls no i   hk19 hZ hP    hv12 hv13 hv14 hrv hl
      have hb_no := hq_rng no
      have hb_i := hq_rng i
      refine lv_iload hx hb dX11_rivals_19 (lv_at hl 0 rfl) ?_
      refine lv_aload_n hx hb dX11_rivals_21 rfl (lv_at hl 2 rfl) ?_
      refine hp_get (v := .ref (qt)) hx hb hts hown hZ hc0 fl_X11_64 rfl dX11_rivals_22 ?_
      refine hp_get (v := .int (bl)) hx hb hts hown hZ hbk1 fl_X11_87 rfl dX11_rivals_25 ?_
      refine lv_icmp_ge (tgt := 72) hx hb dX11_rivals_28 (by decide) (fun c15 => ?_) (fun c15 => ?_)
      · have c15 : (bl).toInt ≤ (i).toInt := hq_lei.mp c15
        refine lv_iload hx hb dX11_rivals_72 (lv_at hl 1 rfl) ?_
        exact hp_iret hx hb hr hlocks hZ ⟨rfl, rfl, by unfold sp_rivt; rw [if_pos (by omega), ← hrv, sp_riv_out (by have h8 := (hq_nn (z := i) (by omega)).1; omega)]⟩ dX11_rivals_74
      · have c15 : ¬ (bl).toInt ≤ (i).toInt := fun h9 => c15 (hq_lei.mpr h9)
        refine lv_aload_n hx hb dX11_rivals_31 rfl (lv_at hl 2 rfl) ?_
        refine hp_get (v := .ref (qt)) hx hb hts hown hZ hc0 fl_X11_64 rfl dX11_rivals_32 ?_
        refine hp_get (v := .ref (qt + 76)) hx hb hts hown hZ hbk1 fl_X11_110 rfl dX11_rivals_35 ?_
        refine lv_iload hx hb dX11_rivals_38 (lv_at hl 0 rfl) ?_
        obtain ⟨la9, hla⟩ : ∃ ta, ta = qt + 77 + 5 * (i).toNatClampNeg := ⟨_, rfl⟩
        have hii : (i.toNatClampNeg : Int) = i.toInt := (hq_nn (by omega)).1.symm
        have hla1 : g3 (i).toNatClampNeg = some la9 := by rw [hla]; exact hr3 _ (by omega)
        obtain ⟨x9, hx9⟩ : ∃ t, bk.2.2.2[i.toNatClampNeg]? = some t := ⟨_, List.getElem?_eq_getElem (by omega)⟩
        obtain ⟨ak, ao, at9, ap, ah, aht, apa, ala, ha1, ha2, ha3, ha4, ha5, -⟩ := (show hx_LN cs V la9 w x9 by rw [hla]; exact hLL.2 _ _ hx9)
        refine hp_aald (v := .ref (la9)) hx hb hZ 6 hg3 rfl (hq_in (by omega) (by omega)) (by rw [hla1]; rfl) dX11_rivals_40 ?_
        refine hp_get (v := .int (ak)) hx hb hts hown hZ ha1 fl_X11_114 rfl dX11_rivals_41 ?_
        refine lv_iconst (v := 1) hx hb dX11_rivals_44 (by decide) ?_
        refine lv_icmp_ne (tgt := 66) hx hb dX11_rivals_45 (by decide) (fun c16 => ?_) (fun c16 => ?_)
        · have c16 : ¬ (ak).toInt = (1 : Int) := fun h9 => c16 (hq_eqi.mpr h9)
          obtain ⟨y17, ey18⟩ : ∃ y : Int32, y = i + (1) := ⟨_, rfl⟩
          obtain ⟨k19, hk20, b21, b22⟩ := hq_add (i) (1)
          rw [← ey18] at hk20 b21 b22
          have hk20 : (y17).toInt = (i).toInt + (1) + k19 * 4294967296 := hk20
          obtain rfl : k19 = 0 := by omega
          refine lv_iinc (v := y17) (lv' := [(5, .int (y17)), (4, .int (no)), (0, .ref (a)), (1, .int (v)), (2, .int (te)), (3, .int (pe))]) hx hb dX11_rivals_66 hl (k := 0) rfl (by rw [ey18]; rfl) (by decide) rfl (fun ls hl => ?_)
          refine lv_goto (tgt := 19) hx hb dX11_rivals_69 (by decide) ?_
          exact ih19 _ (by omega) _ _ ls (no) (y17) rfl hZ hP (by omega) (by omega) (by omega) (by rw [← hrv, sp_riv_go hx9, if_neg (by omega), show (y17).toNatClampNeg = i.toNatClampNeg + 1 from (by have h8 := (hq_nn (z := y17) (by omega)).1; omega)]) (lv_sub hl [0, 1, 2, 3, 4, 5] rfl)
        · have c16 : (ak).toInt = (1 : Int) := hq_eqi.mp c16
          refine lv_aload_n hx hb dX11_rivals_48 rfl (lv_at hl 2 rfl) ?_
          refine hp_get (v := .ref (qt)) hx hb hts hown hZ hc0 fl_X11_64 rfl dX11_rivals_49 ?_
          refine lv_iload hx hb dX11_rivals_52 (lv_at hl 0 rfl) ?_
          refine lv_iload_n hx hb dX11_rivals_54 rfl (lv_at hl 3 rfl) ?_
          refine lv_iload_n hx hb dX11_rivals_55 rfl (lv_at hl 4 rfl) ?_
          refine lv_iload_n hx hb dX11_rivals_56 rfl (lv_at hl 5 rfl) ?_
          refine hp_calli (hp_runV (As := [.int (i), .int (v), .int (te), .int (pe)]) (rest := []) hx hb hml hown hts (x_fits l D cs B G V n hP (qt) (la9) (c9) (i) (v) (te) (pe) (bc) (bv) (bl) (ak) (ao) (at9) (ap) (ah) (aht) (apa) (ala) (g3) (vf)  hbk1 ha1 hg3 hvf  (by omega) (by omega) hla1 (by omega) hvc) hZ hbk1 cv_X11_168 rfl rfl ⟨Nat.le_of_ble_eq_true rfl, Nat.le_of_ble_eq_true rfl⟩ rfl hl.1 rfl (Nat.le_of_ble_eq_true rfl) dX11_rivals_57 ⟨(Nat.le_of_ble_eq_true rfl), (Nat.le_of_ble_eq_true rfl)⟩) hZ (fun r26 V23 n24 _ _ hw25 hZ => ?_)
          obtain ⟨rfl, rfl, hp29⟩ := hw25
          have b30 := hq_rng r26
          rw [← hcd] at hp29
          refine lv_if_eq (tgt := 66) hx hb dX11_rivals_60 (by decide) (fun c31 => ?_) (fun c31 => ?_)
          · have c31 : (r26).toInt = (0 : Int) := hq_eqi.mp c31
            obtain ⟨y32, ey33⟩ : ∃ y : Int32, y = i + (1) := ⟨_, rfl⟩
            obtain ⟨k34, hk35, b36, b37⟩ := hq_add (i) (1)
            rw [← ey33] at hk35 b36 b37
            have hk35 : (y32).toInt = (i).toInt + (1) + k34 * 4294967296 := hk35
            obtain rfl : k34 = 0 := by omega
            refine lv_iinc (v := y32) (lv' := [(5, .int (y32)), (4, .int (no)), (0, .ref (a)), (1, .int (v)), (2, .int (te)), (3, .int (pe))]) hx hb dX11_rivals_66 hl (k := 0) rfl (by rw [ey33]; rfl) (by decide) rfl (fun ls hl => ?_)
            refine lv_goto (tgt := 19) hx hb dX11_rivals_69 (by decide) ?_
            exact ih19 _ (by omega) _ _ ls (no) (y32) rfl hZ hP (by omega) (by omega) (by omega) (by rw [← hrv, sp_riv_go hx9, if_neg (by omega), show (y32).toNatClampNeg = i.toNatClampNeg + 1 from (by have h8 := (hq_nn (z := y32) (by omega)).1; omega)]) (lv_sub hl [0, 1, 2, 3, 4, 5] rfl)
          · have c31 : ¬ (r26).toInt = (0 : Int) := fun h9 => c31 (hq_eqi.mpr h9)
            obtain ⟨y38, ey39⟩ : ∃ y : Int32, y = no + (1) := ⟨_, rfl⟩
            obtain ⟨k40, hk41, b42, b43⟩ := hq_add (no) (1)
            rw [← ey39] at hk41 b42 b43
            have hk41 : (y38).toInt = (no).toInt + (1) + k40 * 4294967296 := hk41
            obtain rfl : k40 = 0 := by omega
            refine lv_iinc (v := y38) (lv' := [(4, .int (y38)), (5, .int (i)), (0, .ref (a)), (1, .int (v)), (2, .int (te)), (3, .int (pe))]) hx hb dX11_rivals_63 hl (k := 1) rfl (by rw [ey39]; rfl) (by decide) rfl (fun ls hl => ?_)
            obtain ⟨y44, ey45⟩ : ∃ y : Int32, y = i + (1) := ⟨_, rfl⟩
            obtain ⟨k46, hk47, b48, b49⟩ := hq_add (i) (1)
            rw [← ey45] at hk47 b48 b49
            have hk47 : (y44).toInt = (i).toInt + (1) + k46 * 4294967296 := hk47
            obtain rfl : k46 = 0 := by omega
            refine lv_iinc (v := y44) (lv' := [(5, .int (y44)), (4, .int (y38)), (0, .ref (a)), (1, .int (v)), (2, .int (te)), (3, .int (pe))]) hx hb dX11_rivals_66 hl (k := 1) rfl (by rw [ey45]; rfl) (by decide) rfl (fun ls hl => ?_)
            refine lv_goto (tgt := 19) hx hb dX11_rivals_69 (by decide) ?_
            exact ih19 _ (by omega) _ _ ls (y38) (y44) rfl hZ hP (by omega) (by omega) (by omega) (by rw [← hrv, sp_riv_go hx9, if_pos (by omega), show (y44).toNatClampNeg = i.toNatClampNeg + 1 from (by have h8 := (hq_nn (z := y44) (by omega)).1; omega), show (y38).toInt = no.toInt + 1 by omega]) (lv_sub hl [0, 1, 2, 3, 4, 5] rfl)
  · have c9 : (r4).toInt = (0 : Int) := hq_eqi.mp c9
    refine lv_bipush (v := -2) hx hb dX11_rivals_10 (by decide) ?_
    have hl50 : (-2 : Int32).toInt = -2 := by decide
    have hl9 : (-2 : Int32).toInt = -2 := by decide
    exact hp_iret hx hb hr hlocks hZ ⟨rfl, rfl, by unfold sp_rivt; rw [if_neg (by omega)]; omega⟩ dX11_rivals_12

set_option maxHeartbeats 4000000 in
set_option maxRecDepth 100000 in
theorem y_in (l : Launch) (D : va_G) (cs : Nat → ClassId) (B : Nat) (G : hq_G) (V : hp_V) (n : Nat) (hI : hq_I cs G V) (l1 : Int64) (l2 : Int64) (l3 : Int64) : hp_M l yX13_in cX13_in 6 (some .boolean) ({ frames := 1, cells := 0, slots := 0, locals := 21 }) D cs B V n [.long (l1), .long (l2), .long (l3)] (hp_QI D cs B (fun r V' n' => n = n' ∧ V = V' ∧ ((r.toInt = 1 ∧ l2.toInt ≤ l1.toInt ∧ l1.toInt ≤ l3.toInt) ∨ (r.toInt = 0 ∧ ¬ (l2.toInt ≤ l1.toInt ∧ l1.toInt ≤ l3.toInt))))) 0 0 := by
  refine hp_walk (R0 := RX13) (by decide) rfl ?_ (Nat.le_of_ble_eq_true rfl)
  intro p e s m below meth c ls hx hb hr hts hown hlocks hin hml hZ hl
  have hP : hq_I cs G V := hI
  have hl : lv_has ls 6 [(0, .long (l1)), (2, .long (l2)), (4, .long (l3))] := hl
  refine lv_lload_n hx hb dX13_in_0 rfl (lv_at hl 0 rfl) ?_
  refine lv_lload_n hx hb dX13_in_1 rfl (lv_at hl 1 rfl) ?_
  refine W.lcmp hx hb dX13_in_2 ?_
  refine lv_topi (fun y1 ey2 => ?_)
  have b3 := hm_cmp (l1) (l2)
  rw [← ey2] at b3
  refine lv_if_lt (tgt := 17) hx hb dX13_in_3 (by decide) (fun c4 => ?_) (fun c4 => ?_)
  · have c4 : (y1).toInt < (0 : Int) := hq_lti.mp c4
    refine lv_iconst (v := 0) hx hb dX13_in_17 (by decide) ?_
    have hl5 : (0 : Int32).toInt = 0 := by decide
    exact hp_zret hx hb hr rfl hlocks hZ ⟨rfl, rfl, (by omega)⟩ dX13_in_18
  · have c4 : ¬ (y1).toInt < (0 : Int) := fun h9 => c4 (hq_lti.mpr h9)
    refine lv_lload_n hx hb dX13_in_6 rfl (lv_at hl 0 rfl) ?_
    refine lv_lload hx hb dX13_in_7 (lv_at hl 2 rfl) ?_
    refine W.lcmp hx hb dX13_in_9 ?_
    refine lv_topi (fun y6 ey7 => ?_)
    have b8 := hm_cmp (l1) (l3)
    rw [← ey7] at b8
    refine lv_if_gt (tgt := 17) hx hb dX13_in_10 (by decide) (fun c9 => ?_) (fun c9 => ?_)
    · have c9 : (0 : Int) < (y6).toInt := hq_lti.mp c9
      refine lv_iconst (v := 0) hx hb dX13_in_17 (by decide) ?_
      have hl10 : (0 : Int32).toInt = 0 := by decide
      exact hp_zret hx hb hr rfl hlocks hZ ⟨rfl, rfl, (by omega)⟩ dX13_in_18
    · have c9 : ¬ (0 : Int) < (y6).toInt := fun h9 => c9 (hq_lti.mpr h9)
      refine lv_iconst (v := 1) hx hb dX13_in_13 (by decide) ?_
      refine lv_goto (tgt := 18) hx hb dX13_in_14 (by decide) ?_
      have hl11 : (1 : Int32).toInt = 1 := by decide
      exact hp_zret hx hb hr rfl hlocks hZ ⟨rfl, rfl, (by omega)⟩ dX13_in_18

set_option maxHeartbeats 4000000 in
set_option maxRecDepth 100000 in
theorem y_isVerb (l : Launch) (D : va_G) (cs : Nat → ClassId) (B : Nat) (G : hq_G) (V : hp_V) (n : Nat) (hI : hq_I cs G V) (q : Nat) (mo : Nat) (rh : hm_Rh) (m_tp : Int32) (m_sz : Int32) (m_fr : Int32) (m_bh : Int32) (m_hd : Int32) (m_ft : Int32) (m_fa : Int32) (m_le : Int32) (m_fo : Int32) (m_as : Int32) (m_fd : Int32) (m_bc : Int32) (m_bg : Int32) (m_bs : Int32) (m_be : Int32) (m_b0 : Int32) (m_b1 : Int32) (m_cm : Int32) (m_hc : Int32) (v : Int32) (hc0 : V (mo) = some (.inr (13, hm_o q (m_tp) (m_sz) (m_fr) (m_bh) (m_hd) (m_ft) (m_fa) (m_le) (m_fo) (m_as) (m_fd) (m_bc) (m_bg) (m_bs) (m_be) (m_b0) (m_b1) (m_cm) (m_hc)))) (hp0 : hm_AR cs V q rh) (hR : hq_RT G q) (hmo : G mo = some (24, 0, 0, 0)) : hp_M l yX13_isVerb cX13_isVerb 2 (some .boolean) ({ frames := 2, cells := 0, slots := 0, locals := 46 }) D cs B V n [.ref (mo), .int (v)] (hp_QI D cs B (fun r V' n' => n = n' ∧ V = V' ∧ ((r.toInt = 1 ∧ 0 ≤ v.toInt ∧ v.toInt < (rh 1 0).toInt) ∨ (r.toInt = 0 ∧ ¬ (0 ≤ v.toInt ∧ v.toInt < (rh 1 0).toInt))))) 0 0 := by
  refine hp_walk (R0 := RX13) (by decide) rfl ?_ (Nat.le_of_ble_eq_true rfl)
  intro p e s m below meth c ls hx hb hr hts hown hlocks hin hml hZ hl
  have hP : hq_I cs G V := hI
  have hl : lv_has ls 2 [(0, .ref (mo)), (1, .int (v))] := hl
  have hb_m_tp := hq_rng m_tp
  have hb_m_sz := hq_rng m_sz
  have hb_m_fr := hq_rng m_fr
  have hb_m_bh := hq_rng m_bh
  have hb_m_hd := hq_rng m_hd
  have hb_m_ft := hq_rng m_ft
  have hb_m_fa := hq_rng m_fa
  have hb_m_le := hq_rng m_le
  have hb_m_fo := hq_rng m_fo
  have hb_m_as := hq_rng m_as
  have hb_m_fd := hq_rng m_fd
  have hb_m_bc := hq_rng m_bc
  have hb_m_bg := hq_rng m_bg
  have hb_m_bs := hq_rng m_bs
  have hb_m_be := hq_rng m_be
  have hb_m_b0 := hq_rng m_b0
  have hb_m_b1 := hq_rng m_b1
  have hb_m_cm := hq_rng m_cm
  have hb_m_hc := hq_rng m_hc
  have hb_v := hq_rng v
  have hL0 : (0 : Int64).toInt = 0 := by decide
  have hL1 : (1 : Int64).toInt = 1 := by decide
  have hL4 : (4 : Int64).toInt = 4 := by decide
  have hL5 : (5 : Int64).toInt = 5 := by decide
  have hL9 : (9 : Int64).toInt = 9 := by decide
  have hL10 : (10 : Int64).toInt = 10 := by decide
  refine lv_iload_n hx hb dX13_isVerb_0 rfl (lv_at hl 1 rfl) ?_
  refine lv_i2l (v := (v).toInt64) hx hb dX13_isVerb_1 rfl ?_
  refine lv_topl (fun y1 ey2 => ?_)
  have b3 : (y1).toInt = (v).toInt := by rw [ey2]; exact hm_i2l _
  refine lv_lconst (v := 0) hx hb dX13_isVerb_2 (by decide) ?_
  refine lv_aload_n hx hb dX13_isVerb_3 rfl (lv_at hl 0 rfl) ?_
  refine hp_get (v := .ref (q + 1)) hx hb hts hown hZ hc0 fl_X13_7 rfl dX13_isVerb_4 ?_
  refine lv_iconst (v := 0) hx hb dX13_isVerb_7 (by decide) ?_
  obtain ⟨rf4, hrf5⟩ : ∃ f : Nat → Int32, f = rh 1 := ⟨_, rfl⟩
  have ea6 : V (q + 1) = some (.inl (cs 1, 2, .inl (rf4))) := by rw [hrf5]; exact hp0 1 (by decide)
  have hra7 := hq_rg hP (hr_1 hR) ea6
  refine hp_iald hx hb hZ ea6 (by unfold vp_in; decide) dX13_isVerb_8 ?_
  refine lv_topi (fun y8 ey9 => ?_)
  have b10 : hq_ir (hq_lo 9) (hq_hi 9) y8 := by rw [ey9]; exact hra7 _ (by decide)
  have b10 : 0 ≤ (y8).toInt ∧ (y8).toInt ≤ 30 := b10
  have b11 : (y8).toInt = (rh 1 0).toInt := by rw [ey9, hrf5]; rfl
  refine lv_i2l (v := (y8).toInt64) hx hb dX13_isVerb_9 rfl ?_
  refine lv_topl (fun y12 ey13 => ?_)
  have b14 : (y12).toInt = (y8).toInt := by rw [ey13]; exact hm_i2l _
  refine lv_lconst (v := 1) hx hb dX13_isVerb_10 (by decide) ?_
  refine lv_lsub hx hb dX13_isVerb_11 ?_
  refine lv_topl (fun y15 ey16 => ?_)
  have b18 : (1 : Int64).toInt = 1 := by decide
  have b17 : (y15).toInt = (y12).toInt - (1 : Int) := by rw [ey16]; exact hm_lsub _ _ (by omega) (by omega)
  refine hp_calli (hp_runS (As := [.long (y1), .long (0), .long (y15)]) (rest := []) hx hb hml hown hts (y_in l D cs B G V n hP (y1) (0) (y15)    ) hZ cv_X13_301 rfl rfl ⟨Nat.le_of_ble_eq_true rfl, Nat.le_of_ble_eq_true rfl⟩ rfl hl.1 rfl (Nat.le_of_ble_eq_true rfl) dX13_isVerb_12 ⟨(Nat.le_of_ble_eq_true rfl), (Nat.le_of_ble_eq_true rfl)⟩) hZ (fun r22 V19 n20 _ _ hw21 hZ => ?_)
  obtain ⟨rfl, rfl, hp25⟩ := hw21
  have b26 := hq_rng r22
  exact hp_zret hx hb hr (hq_nzi (by omega) (by omega)) hlocks hZ ⟨rfl, rfl, (by omega)⟩ dX13_isVerb_15

set_option maxHeartbeats 4000000 in
set_option maxRecDepth 100000 in
theorem y_fits (l : Launch) (D : va_G) (cs : Nat → ClassId) (B : Nat) (G : hq_G) (V : hp_V) (n : Nat) (hI : hq_I cs G V) (q : Nat) (mo : Nat) (rh : hm_Rh) (m_tp : Int32) (m_sz : Int32) (m_fr : Int32) (m_bh : Int32) (m_hd : Int32) (m_ft : Int32) (m_fa : Int32) (m_le : Int32) (m_fo : Int32) (m_as : Int32) (m_fd : Int32) (m_bc : Int32) (m_bg : Int32) (m_bs : Int32) (m_be : Int32) (m_b0 : Int32) (m_b1 : Int32) (m_cm : Int32) (m_hc : Int32) (i : Int32) (v : Int32) (te : Int32) (pe : Int32) (hc0 : V (mo) = some (.inr (13, hm_o q (m_tp) (m_sz) (m_fr) (m_bh) (m_hd) (m_ft) (m_fa) (m_le) (m_fo) (m_as) (m_fd) (m_bc) (m_bg) (m_bs) (m_be) (m_b0) (m_b1) (m_cm) (m_hc)))) (hp0 : hm_AR cs V q rh) (hR : hq_RT G q) (hmo : G mo = some (24, 0, 0, 0)) (hi : 0 ≤ i.toInt ∧ i.toInt < 60) (hv : 0 ≤ v.toInt ∧ v.toInt < 30) (hk1 : (rh 10 (i).toNatClampNeg).toInt = 1) : hp_M l yX13_fits cX13_fits 5 (some .boolean) ({ frames := 1, cells := 0, slots := 0, locals := 21 }) D cs B V n [.ref (mo), .int (i), .int (v), .int (te), .int (pe)] (hp_QI D cs B (fun r V' n' => n = n' ∧ V = V' ∧ ((r.toInt = 1 ∧ ((rh 12 (i).toNatClampNeg).toInt = te.toInt ∧ ((rh 13 (i).toNatClampNeg).toInt = -1 ∨ (rh 13 (i).toNatClampNeg).toInt = pe.toInt) ∧ ((rh 11 (i).toNatClampNeg).toInt = -1 ∨ (rh 11 (i).toNatClampNeg).toInt = (rh 9 (v).toNatClampNeg).toInt))) ∨ (r.toInt = 0 ∧ ¬ ((rh 12 (i).toNatClampNeg).toInt = te.toInt ∧ ((rh 13 (i).toNatClampNeg).toInt = -1 ∨ (rh 13 (i).toNatClampNeg).toInt = pe.toInt) ∧ ((rh 11 (i).toNatClampNeg).toInt = -1 ∨ (rh 11 (i).toNatClampNeg).toInt = (rh 9 (v).toNatClampNeg).toInt)))))) 0 0 := by
  refine hp_walk (R0 := RX13) (by decide) rfl ?_ (Nat.le_of_ble_eq_true rfl)
  intro p e s m below meth c ls hx hb hr hts hown hlocks hin hml hZ hl
  have hP : hq_I cs G V := hI
  have hl : lv_has ls 5 [(0, .ref (mo)), (1, .int (i)), (2, .int (v)), (3, .int (te)), (4, .int (pe))] := hl
  have hb_m_tp := hq_rng m_tp
  have hb_m_sz := hq_rng m_sz
  have hb_m_fr := hq_rng m_fr
  have hb_m_bh := hq_rng m_bh
  have hb_m_hd := hq_rng m_hd
  have hb_m_ft := hq_rng m_ft
  have hb_m_fa := hq_rng m_fa
  have hb_m_le := hq_rng m_le
  have hb_m_fo := hq_rng m_fo
  have hb_m_as := hq_rng m_as
  have hb_m_fd := hq_rng m_fd
  have hb_m_bc := hq_rng m_bc
  have hb_m_bg := hq_rng m_bg
  have hb_m_bs := hq_rng m_bs
  have hb_m_be := hq_rng m_be
  have hb_m_b0 := hq_rng m_b0
  have hb_m_b1 := hq_rng m_b1
  have hb_m_cm := hq_rng m_cm
  have hb_m_hc := hq_rng m_hc
  have hb_i := hq_rng i
  have hb_v := hq_rng v
  have hb_te := hq_rng te
  have hb_pe := hq_rng pe
  refine lv_aload_n hx hb dX13_fits_0 rfl (lv_at hl 0 rfl) ?_
  refine hp_get (v := .ref (q + 10)) hx hb hts hown hZ hc0 fl_X13_29 rfl dX13_fits_1 ?_
  refine lv_iload_n hx hb dX13_fits_4 rfl (lv_at hl 1 rfl) ?_
  obtain ⟨rf1, hrf2⟩ : ∃ f : Nat → Int32, f = rh 10 := ⟨_, rfl⟩
  have ea3 : V (q + 10) = some (.inl (cs 1, 120, .inl (rf1))) := by rw [hrf2]; exact hp0 10 (by decide)
  have hra4 := hq_rg hP (hr_10 hR) ea3
  refine hp_iald hx hb hZ ea3 (hq_in (by omega) (by omega)) dX13_fits_5 ?_
  refine lv_topi (fun y5 ey6 => ?_)
  have b7 := hq_rng y5
  have b8 : (y5).toInt = (rh 10 (i).toNatClampNeg).toInt := by rw [ey6, hrf2]
  refine lv_iconst (v := 2) hx hb dX13_fits_6 (by decide) ?_
  refine lv_icmp_eq (tgt := 41) hx hb dX13_fits_7 (by decide) (fun c9 => ?_) (fun c9 => ?_)
  · have c9 : (y5).toInt = (2 : Int) := hq_eqi.mp c9
    refine lv_iconst (v := 0) hx hb dX13_fits_41 (by decide) ?_
    have hl10 : (0 : Int32).toInt = 0 := by decide
    exact hp_zret hx hb hr rfl hlocks hZ ⟨rfl, rfl, (by omega)⟩ dX13_fits_42
  · have c9 : ¬ (y5).toInt = (2 : Int) := fun h9 => c9 (hq_eqi.mpr h9)
    refine lv_aload_n hx hb dX13_fits_10 rfl (lv_at hl 0 rfl) ?_
    refine hp_get (v := .ref (q + 12)) hx hb hts hown hZ hc0 fl_X13_35 rfl dX13_fits_11 ?_
    refine lv_iload_n hx hb dX13_fits_14 rfl (lv_at hl 1 rfl) ?_
    obtain ⟨rf11, hrf12⟩ : ∃ f : Nat → Int32, f = rh 12 := ⟨_, rfl⟩
    have ea13 : V (q + 12) = some (.inl (cs 1, 120, .inl (rf11))) := by rw [hrf12]; exact hp0 12 (by decide)
    have hra14 := hq_rg hP (hr_12 hR) ea13
    refine hp_iald hx hb hZ ea13 (hq_in (by omega) (by omega)) dX13_fits_15 ?_
    refine lv_topi (fun y15 ey16 => ?_)
    have b17 := hq_rng y15
    have b18 : (y15).toInt = (rh 12 (i).toNatClampNeg).toInt := by rw [ey16, hrf12]
    refine lv_iload_n hx hb dX13_fits_16 rfl (lv_at hl 3 rfl) ?_
    refine lv_icmp_ne (tgt := 41) hx hb dX13_fits_17 (by decide) (fun c19 => ?_) (fun c19 => ?_)
    · have c19 : ¬ (y15).toInt = (te).toInt := fun h9 => c19 (hq_eqi.mpr h9)
      refine lv_iconst (v := 0) hx hb dX13_fits_41 (by decide) ?_
      have hl20 : (0 : Int32).toInt = 0 := by decide
      exact hp_zret hx hb hr rfl hlocks hZ ⟨rfl, rfl, (by omega)⟩ dX13_fits_42
    · have c19 : (y15).toInt = (te).toInt := hq_eqi.mp c19
      refine lv_aload_n hx hb dX13_fits_20 rfl (lv_at hl 0 rfl) ?_
      refine hp_get (v := .ref (q + 13)) hx hb hts hown hZ hc0 fl_X13_38 rfl dX13_fits_21 ?_
      refine lv_iload_n hx hb dX13_fits_24 rfl (lv_at hl 1 rfl) ?_
      obtain ⟨rf21, hrf22⟩ : ∃ f : Nat → Int32, f = rh 13 := ⟨_, rfl⟩
      have ea23 : V (q + 13) = some (.inl (cs 1, 120, .inl (rf21))) := by rw [hrf22]; exact hp0 13 (by decide)
      have hra24 := hq_rg hP (hr_13 hR) ea23
      refine hp_iald hx hb hZ ea23 (hq_in (by omega) (by omega)) dX13_fits_25 ?_
      refine lv_topi (fun y25 ey26 => ?_)
      have b27 := hq_rng y25
      have b28 : (y25).toInt = (rh 13 (i).toNatClampNeg).toInt := by rw [ey26, hrf22]
      refine lv_iconst (v := -1) hx hb dX13_fits_26 (by decide) ?_
      refine lv_icmp_eq (tgt := 43) hx hb dX13_fits_27 (by decide) (fun c29 => ?_) (fun c29 => ?_)
      · have c29 : (y25).toInt = (-1 : Int) := hq_eqi.mp c29
        refine lv_aload_n hx hb dX13_fits_43 rfl (lv_at hl 0 rfl) ?_
        refine hp_get (v := .ref (q + 11)) hx hb hts hown hZ hc0 fl_X13_32 rfl dX13_fits_44 ?_
        refine lv_iload_n hx hb dX13_fits_47 rfl (lv_at hl 1 rfl) ?_
        obtain ⟨rf30, hrf31⟩ : ∃ f : Nat → Int32, f = rh 11 := ⟨_, rfl⟩
        have ea32 : V (q + 11) = some (.inl (cs 1, 120, .inl (rf30))) := by rw [hrf31]; exact hp0 11 (by decide)
        have hra33 := hq_rg hP (hr_11 hR) ea32
        refine hp_iald hx hb hZ ea32 (hq_in (by omega) (by omega)) dX13_fits_48 ?_
        refine lv_topi (fun y34 ey35 => ?_)
        have b36 := hq_rng y34
        have b37 : (y34).toInt = (rh 11 (i).toNatClampNeg).toInt := by rw [ey35, hrf31]
        refine lv_iconst (v := -1) hx hb dX13_fits_49 (by decide) ?_
        refine lv_icmp_eq (tgt := 92) hx hb dX13_fits_50 (by decide) (fun c38 => ?_) (fun c38 => ?_)
        · have c38 : (y34).toInt = (-1 : Int) := hq_eqi.mp c38
          refine lv_iconst (v := 1) hx hb dX13_fits_92 (by decide) ?_
          refine lv_goto (tgt := 97) hx hb dX13_fits_93 (by decide) ?_
          have hl39 : (1 : Int32).toInt = 1 := by decide
          exact hp_zret hx hb hr rfl hlocks hZ ⟨rfl, rfl, (by omega)⟩ dX13_fits_97
        · have c38 : ¬ (y34).toInt = (-1 : Int) := fun h9 => c38 (hq_eqi.mpr h9)
          refine lv_aload_n hx hb dX13_fits_53 rfl (lv_at hl 0 rfl) ?_
          refine hp_get (v := .ref (q + 11)) hx hb hts hown hZ hc0 fl_X13_32 rfl dX13_fits_54 ?_
          refine lv_iload_n hx hb dX13_fits_57 rfl (lv_at hl 1 rfl) ?_
          refine hp_iald hx hb hZ ea32 (hq_in (by omega) (by omega)) dX13_fits_58 ?_
          refine lv_topi (fun y40 ey41 => ?_)
          have b42 := hq_rng y40
          have b43 : (y40).toInt = (rh 11 (i).toNatClampNeg).toInt := by rw [ey41, hrf31]
          refine lv_aload_n hx hb dX13_fits_59 rfl (lv_at hl 0 rfl) ?_
          refine hp_get (v := .ref (q + 10)) hx hb hts hown hZ hc0 fl_X13_29 rfl dX13_fits_60 ?_
          refine lv_iload_n hx hb dX13_fits_63 rfl (lv_at hl 1 rfl) ?_
          refine hp_iald hx hb hZ ea3 (hq_in (by omega) (by omega)) dX13_fits_64 ?_
          refine lv_topi (fun y44 ey45 => ?_)
          have b46 := hq_rng y44
          have b47 : (y44).toInt = (rh 10 (i).toNatClampNeg).toInt := by rw [ey45, hrf2]
          refine lv_iconst (v := 4) hx hb dX13_fits_65 (by decide) ?_
          refine lv_icmp_eq (tgt := 79) hx hb dX13_fits_66 (by decide) (fun c48 => ?_) (fun c48 => ?_)
          · have c48 : (y44).toInt = (4 : Int) := hq_eqi.mp c48
            refine lv_iload_n hx hb dX13_fits_79 rfl (lv_at hl 2 rfl) ?_
            refine lv_goto (tgt := 89) hx hb dX13_fits_80 (by decide) ?_
            refine lv_icmp_ne (tgt := 96) hx hb dX13_fits_89 (by decide) (fun c49 => ?_) (fun c49 => ?_)
            · have c49 : ¬ (y40).toInt = (v).toInt := fun h9 => c49 (hq_eqi.mpr h9)
              refine lv_iconst (v := 0) hx hb dX13_fits_96 (by decide) ?_
              have hl50 : (0 : Int32).toInt = 0 := by decide
              exact hp_zret hx hb hr rfl hlocks hZ ⟨rfl, rfl, (by omega)⟩ dX13_fits_97
            · have c49 : (y40).toInt = (v).toInt := hq_eqi.mp c49
              refine lv_iconst (v := 1) hx hb dX13_fits_92 (by decide) ?_
              refine lv_goto (tgt := 97) hx hb dX13_fits_93 (by decide) ?_
              have hl51 : (1 : Int32).toInt = 1 := by decide
              exact hp_zret hx hb hr rfl hlocks hZ ⟨rfl, rfl, (by omega)⟩ dX13_fits_97
          · have c48 : ¬ (y44).toInt = (4 : Int) := fun h9 => c48 (hq_eqi.mpr h9)
            refine lv_aload_n hx hb dX13_fits_69 rfl (lv_at hl 0 rfl) ?_
            refine hp_get (v := .ref (q + 10)) hx hb hts hown hZ hc0 fl_X13_29 rfl dX13_fits_70 ?_
            refine lv_iload_n hx hb dX13_fits_73 rfl (lv_at hl 1 rfl) ?_
            refine hp_iald hx hb hZ ea3 (hq_in (by omega) (by omega)) dX13_fits_74 ?_
            refine lv_topi (fun y52 ey53 => ?_)
            have b54 := hq_rng y52
            have b55 : (y52).toInt = (rh 10 (i).toNatClampNeg).toInt := by rw [ey53, hrf2]
            refine lv_iconst (v := 5) hx hb dX13_fits_75 (by decide) ?_
            refine lv_icmp_ne (tgt := 83) hx hb dX13_fits_76 (by decide) (fun c56 => ?_) (fun c56 => ?_)
            · have c56 : ¬ (y52).toInt = (5 : Int) := fun h9 => c56 (hq_eqi.mpr h9)
              refine lv_aload_n hx hb dX13_fits_83 rfl (lv_at hl 0 rfl) ?_
              refine hp_get (v := .ref (q + 9)) hx hb hts hown hZ hc0 fl_X13_16 rfl dX13_fits_84 ?_
              refine lv_iload_n hx hb dX13_fits_87 rfl (lv_at hl 2 rfl) ?_
              obtain ⟨rf57, hrf58⟩ : ∃ f : Nat → Int32, f = rh 9 := ⟨_, rfl⟩
              have ea59 : V (q + 9) = some (.inl (cs 1, 60, .inl (rf57))) := by rw [hrf58]; exact hp0 9 (by decide)
              have hra60 := hq_rg hP (hr_9 hR) ea59
              refine hp_iald hx hb hZ ea59 (hq_in (by omega) (by omega)) dX13_fits_88 ?_
              refine lv_topi (fun y61 ey62 => ?_)
              have b63 := hq_rng y61
              have b64 : (y61).toInt = (rh 9 (v).toNatClampNeg).toInt := by rw [ey62, hrf58]
              refine lv_icmp_ne (tgt := 96) hx hb dX13_fits_89 (by decide) (fun c65 => ?_) (fun c65 => ?_)
              · have c65 : ¬ (y40).toInt = (y61).toInt := fun h9 => c65 (hq_eqi.mpr h9)
                refine lv_iconst (v := 0) hx hb dX13_fits_96 (by decide) ?_
                have hl66 : (0 : Int32).toInt = 0 := by decide
                exact hp_zret hx hb hr rfl hlocks hZ ⟨rfl, rfl, (by omega)⟩ dX13_fits_97
              · have c65 : (y40).toInt = (y61).toInt := hq_eqi.mp c65
                refine lv_iconst (v := 1) hx hb dX13_fits_92 (by decide) ?_
                refine lv_goto (tgt := 97) hx hb dX13_fits_93 (by decide) ?_
                have hl67 : (1 : Int32).toInt = 1 := by decide
                exact hp_zret hx hb hr rfl hlocks hZ ⟨rfl, rfl, (by omega)⟩ dX13_fits_97
            · have c56 : (y52).toInt = (5 : Int) := hq_eqi.mp c56
              refine lv_iload_n hx hb dX13_fits_79 rfl (lv_at hl 2 rfl) ?_
              refine lv_goto (tgt := 89) hx hb dX13_fits_80 (by decide) ?_
              refine lv_icmp_ne (tgt := 96) hx hb dX13_fits_89 (by decide) (fun c68 => ?_) (fun c68 => ?_)
              · have c68 : ¬ (y40).toInt = (v).toInt := fun h9 => c68 (hq_eqi.mpr h9)
                refine lv_iconst (v := 0) hx hb dX13_fits_96 (by decide) ?_
                have hl69 : (0 : Int32).toInt = 0 := by decide
                exact hp_zret hx hb hr rfl hlocks hZ ⟨rfl, rfl, (by omega)⟩ dX13_fits_97
              · have c68 : (y40).toInt = (v).toInt := hq_eqi.mp c68
                refine lv_iconst (v := 1) hx hb dX13_fits_92 (by decide) ?_
                refine lv_goto (tgt := 97) hx hb dX13_fits_93 (by decide) ?_
                have hl70 : (1 : Int32).toInt = 1 := by decide
                exact hp_zret hx hb hr rfl hlocks hZ ⟨rfl, rfl, (by omega)⟩ dX13_fits_97
      · have c29 : ¬ (y25).toInt = (-1 : Int) := fun h9 => c29 (hq_eqi.mpr h9)
        refine lv_aload_n hx hb dX13_fits_30 rfl (lv_at hl 0 rfl) ?_
        refine hp_get (v := .ref (q + 13)) hx hb hts hown hZ hc0 fl_X13_38 rfl dX13_fits_31 ?_
        refine lv_iload_n hx hb dX13_fits_34 rfl (lv_at hl 1 rfl) ?_
        refine hp_iald hx hb hZ ea23 (hq_in (by omega) (by omega)) dX13_fits_35 ?_
        refine lv_topi (fun y71 ey72 => ?_)
        have b73 := hq_rng y71
        have b74 : (y71).toInt = (rh 13 (i).toNatClampNeg).toInt := by rw [ey72, hrf22]
        refine lv_iload hx hb dX13_fits_36 (lv_at hl 4 rfl) ?_
        refine lv_icmp_eq (tgt := 43) hx hb dX13_fits_38 (by decide) (fun c75 => ?_) (fun c75 => ?_)
        · have c75 : (y71).toInt = (pe).toInt := hq_eqi.mp c75
          refine lv_aload_n hx hb dX13_fits_43 rfl (lv_at hl 0 rfl) ?_
          refine hp_get (v := .ref (q + 11)) hx hb hts hown hZ hc0 fl_X13_32 rfl dX13_fits_44 ?_
          refine lv_iload_n hx hb dX13_fits_47 rfl (lv_at hl 1 rfl) ?_
          obtain ⟨rf76, hrf77⟩ : ∃ f : Nat → Int32, f = rh 11 := ⟨_, rfl⟩
          have ea78 : V (q + 11) = some (.inl (cs 1, 120, .inl (rf76))) := by rw [hrf77]; exact hp0 11 (by decide)
          have hra79 := hq_rg hP (hr_11 hR) ea78
          refine hp_iald hx hb hZ ea78 (hq_in (by omega) (by omega)) dX13_fits_48 ?_
          refine lv_topi (fun y80 ey81 => ?_)
          have b82 := hq_rng y80
          have b83 : (y80).toInt = (rh 11 (i).toNatClampNeg).toInt := by rw [ey81, hrf77]
          refine lv_iconst (v := -1) hx hb dX13_fits_49 (by decide) ?_
          refine lv_icmp_eq (tgt := 92) hx hb dX13_fits_50 (by decide) (fun c84 => ?_) (fun c84 => ?_)
          · have c84 : (y80).toInt = (-1 : Int) := hq_eqi.mp c84
            refine lv_iconst (v := 1) hx hb dX13_fits_92 (by decide) ?_
            refine lv_goto (tgt := 97) hx hb dX13_fits_93 (by decide) ?_
            have hl85 : (1 : Int32).toInt = 1 := by decide
            exact hp_zret hx hb hr rfl hlocks hZ ⟨rfl, rfl, (by omega)⟩ dX13_fits_97
          · have c84 : ¬ (y80).toInt = (-1 : Int) := fun h9 => c84 (hq_eqi.mpr h9)
            refine lv_aload_n hx hb dX13_fits_53 rfl (lv_at hl 0 rfl) ?_
            refine hp_get (v := .ref (q + 11)) hx hb hts hown hZ hc0 fl_X13_32 rfl dX13_fits_54 ?_
            refine lv_iload_n hx hb dX13_fits_57 rfl (lv_at hl 1 rfl) ?_
            refine hp_iald hx hb hZ ea78 (hq_in (by omega) (by omega)) dX13_fits_58 ?_
            refine lv_topi (fun y86 ey87 => ?_)
            have b88 := hq_rng y86
            have b89 : (y86).toInt = (rh 11 (i).toNatClampNeg).toInt := by rw [ey87, hrf77]
            refine lv_aload_n hx hb dX13_fits_59 rfl (lv_at hl 0 rfl) ?_
            refine hp_get (v := .ref (q + 10)) hx hb hts hown hZ hc0 fl_X13_29 rfl dX13_fits_60 ?_
            refine lv_iload_n hx hb dX13_fits_63 rfl (lv_at hl 1 rfl) ?_
            refine hp_iald hx hb hZ ea3 (hq_in (by omega) (by omega)) dX13_fits_64 ?_
            refine lv_topi (fun y90 ey91 => ?_)
            have b92 := hq_rng y90
            have b93 : (y90).toInt = (rh 10 (i).toNatClampNeg).toInt := by rw [ey91, hrf2]
            refine lv_iconst (v := 4) hx hb dX13_fits_65 (by decide) ?_
            refine lv_icmp_eq (tgt := 79) hx hb dX13_fits_66 (by decide) (fun c94 => ?_) (fun c94 => ?_)
            · have c94 : (y90).toInt = (4 : Int) := hq_eqi.mp c94
              refine lv_iload_n hx hb dX13_fits_79 rfl (lv_at hl 2 rfl) ?_
              refine lv_goto (tgt := 89) hx hb dX13_fits_80 (by decide) ?_
              refine lv_icmp_ne (tgt := 96) hx hb dX13_fits_89 (by decide) (fun c95 => ?_) (fun c95 => ?_)
              · have c95 : ¬ (y86).toInt = (v).toInt := fun h9 => c95 (hq_eqi.mpr h9)
                refine lv_iconst (v := 0) hx hb dX13_fits_96 (by decide) ?_
                have hl96 : (0 : Int32).toInt = 0 := by decide
                exact hp_zret hx hb hr rfl hlocks hZ ⟨rfl, rfl, (by omega)⟩ dX13_fits_97
              · have c95 : (y86).toInt = (v).toInt := hq_eqi.mp c95
                refine lv_iconst (v := 1) hx hb dX13_fits_92 (by decide) ?_
                refine lv_goto (tgt := 97) hx hb dX13_fits_93 (by decide) ?_
                have hl97 : (1 : Int32).toInt = 1 := by decide
                exact hp_zret hx hb hr rfl hlocks hZ ⟨rfl, rfl, (by omega)⟩ dX13_fits_97
            · have c94 : ¬ (y90).toInt = (4 : Int) := fun h9 => c94 (hq_eqi.mpr h9)
              refine lv_aload_n hx hb dX13_fits_69 rfl (lv_at hl 0 rfl) ?_
              refine hp_get (v := .ref (q + 10)) hx hb hts hown hZ hc0 fl_X13_29 rfl dX13_fits_70 ?_
              refine lv_iload_n hx hb dX13_fits_73 rfl (lv_at hl 1 rfl) ?_
              refine hp_iald hx hb hZ ea3 (hq_in (by omega) (by omega)) dX13_fits_74 ?_
              refine lv_topi (fun y98 ey99 => ?_)
              have b100 := hq_rng y98
              have b101 : (y98).toInt = (rh 10 (i).toNatClampNeg).toInt := by rw [ey99, hrf2]
              refine lv_iconst (v := 5) hx hb dX13_fits_75 (by decide) ?_
              refine lv_icmp_ne (tgt := 83) hx hb dX13_fits_76 (by decide) (fun c102 => ?_) (fun c102 => ?_)
              · have c102 : ¬ (y98).toInt = (5 : Int) := fun h9 => c102 (hq_eqi.mpr h9)
                refine lv_aload_n hx hb dX13_fits_83 rfl (lv_at hl 0 rfl) ?_
                refine hp_get (v := .ref (q + 9)) hx hb hts hown hZ hc0 fl_X13_16 rfl dX13_fits_84 ?_
                refine lv_iload_n hx hb dX13_fits_87 rfl (lv_at hl 2 rfl) ?_
                obtain ⟨rf103, hrf104⟩ : ∃ f : Nat → Int32, f = rh 9 := ⟨_, rfl⟩
                have ea105 : V (q + 9) = some (.inl (cs 1, 60, .inl (rf103))) := by rw [hrf104]; exact hp0 9 (by decide)
                have hra106 := hq_rg hP (hr_9 hR) ea105
                refine hp_iald hx hb hZ ea105 (hq_in (by omega) (by omega)) dX13_fits_88 ?_
                refine lv_topi (fun y107 ey108 => ?_)
                have b109 := hq_rng y107
                have b110 : (y107).toInt = (rh 9 (v).toNatClampNeg).toInt := by rw [ey108, hrf104]
                refine lv_icmp_ne (tgt := 96) hx hb dX13_fits_89 (by decide) (fun c111 => ?_) (fun c111 => ?_)
                · have c111 : ¬ (y86).toInt = (y107).toInt := fun h9 => c111 (hq_eqi.mpr h9)
                  refine lv_iconst (v := 0) hx hb dX13_fits_96 (by decide) ?_
                  have hl112 : (0 : Int32).toInt = 0 := by decide
                  exact hp_zret hx hb hr rfl hlocks hZ ⟨rfl, rfl, (by omega)⟩ dX13_fits_97
                · have c111 : (y86).toInt = (y107).toInt := hq_eqi.mp c111
                  refine lv_iconst (v := 1) hx hb dX13_fits_92 (by decide) ?_
                  refine lv_goto (tgt := 97) hx hb dX13_fits_93 (by decide) ?_
                  have hl113 : (1 : Int32).toInt = 1 := by decide
                  exact hp_zret hx hb hr rfl hlocks hZ ⟨rfl, rfl, (by omega)⟩ dX13_fits_97
              · have c102 : (y98).toInt = (5 : Int) := hq_eqi.mp c102
                refine lv_iload_n hx hb dX13_fits_79 rfl (lv_at hl 2 rfl) ?_
                refine lv_goto (tgt := 89) hx hb dX13_fits_80 (by decide) ?_
                refine lv_icmp_ne (tgt := 96) hx hb dX13_fits_89 (by decide) (fun c114 => ?_) (fun c114 => ?_)
                · have c114 : ¬ (y86).toInt = (v).toInt := fun h9 => c114 (hq_eqi.mpr h9)
                  refine lv_iconst (v := 0) hx hb dX13_fits_96 (by decide) ?_
                  have hl115 : (0 : Int32).toInt = 0 := by decide
                  exact hp_zret hx hb hr rfl hlocks hZ ⟨rfl, rfl, (by omega)⟩ dX13_fits_97
                · have c114 : (y86).toInt = (v).toInt := hq_eqi.mp c114
                  refine lv_iconst (v := 1) hx hb dX13_fits_92 (by decide) ?_
                  refine lv_goto (tgt := 97) hx hb dX13_fits_93 (by decide) ?_
                  have hl116 : (1 : Int32).toInt = 1 := by decide
                  exact hp_zret hx hb hr rfl hlocks hZ ⟨rfl, rfl, (by omega)⟩ dX13_fits_97
        · have c75 : ¬ (y71).toInt = (pe).toInt := fun h9 => c75 (hq_eqi.mpr h9)
          refine lv_iconst (v := 0) hx hb dX13_fits_41 (by decide) ?_
          have hl117 : (0 : Int32).toInt = 0 := by decide
          exact hp_zret hx hb hr rfl hlocks hZ ⟨rfl, rfl, (by omega)⟩ dX13_fits_42

set_option maxHeartbeats 4000000 in
set_option maxRecDepth 100000 in
theorem y_manyOf (l : Launch) (D : va_G) (cs : Nat → ClassId) (B : Nat) (G : hq_G) (V : hp_V) (n : Nat) (hI : hq_I cs G V) (q : Nat) (mo : Nat) (w : sp_W) (bk : sp_B) (rh : hm_Rh) (m_tp : Int32) (m_sz : Int32) (m_fr : Int32) (m_bh : Int32) (m_hd : Int32) (m_ft : Int32) (m_fa : Int32) (m_le : Int32) (m_fo : Int32) (m_as : Int32) (m_fd : Int32) (m_bc : Int32) (m_bg : Int32) (m_bs : Int32) (m_be : Int32) (m_b0 : Int32) (m_b1 : Int32) (m_cm : Int32) (m_hc : Int32) (k : Int32) (v : Int32) (te : Int32) (pe : Int32) (hc0 : V (mo) = some (.inr (13, hm_o q (m_tp) (m_sz) (m_fr) (m_bh) (m_hd) (m_ft) (m_fa) (m_le) (m_fo) (m_as) (m_fd) (m_bc) (m_bg) (m_bs) (m_be) (m_b0) (m_b1) (m_cm) (m_hc)))) (hp0 : hm_AR cs V q rh) (hR : hq_RT G q) (hmo : G mo = some (24, 0, 0, 0)) (hBm : hm_BK rh 0 w bk) (hk : k.toInt = 1) (hv : 0 ≤ v.toInt ∧ v.toInt < (bk.2.1.length : Int)) : hp_M l yX13_manyOf cX13_manyOf 7 (some .int) ({ frames := 2, cells := 0, slots := 0, locals := 45 }) D cs B V n [.ref (mo), .int (k), .int (v), .int (te), .int (pe)] (hp_QI D cs B (fun r V' n' => n = n' ∧ V = V' ∧ (r.toInt = sp_riv (bk.2.2.1.getD v.toInt.toNat 0) te.toInt pe.toInt bk.2.2.2 0))) 0 0 := by
  refine hp_walk (R0 := RX13) (by decide) rfl ?_ (Nat.le_of_ble_eq_true rfl)
  intro p e s m below meth c ls hx hb hr hts hown hlocks hin hml hZ hl
  have hP : hq_I cs G V := hI
  have hl : lv_has ls 7 [(0, .ref (mo)), (1, .int (k)), (2, .int (v)), (3, .int (te)), (4, .int (pe))] := hl
  have hb_m_tp := hq_rng m_tp
  have hb_m_sz := hq_rng m_sz
  have hb_m_fr := hq_rng m_fr
  have hb_m_bh := hq_rng m_bh
  have hb_m_hd := hq_rng m_hd
  have hb_m_ft := hq_rng m_ft
  have hb_m_fa := hq_rng m_fa
  have hb_m_le := hq_rng m_le
  have hb_m_fo := hq_rng m_fo
  have hb_m_as := hq_rng m_as
  have hb_m_fd := hq_rng m_fd
  have hb_m_bc := hq_rng m_bc
  have hb_m_bg := hq_rng m_bg
  have hb_m_bs := hq_rng m_bs
  have hb_m_be := hq_rng m_be
  have hb_m_b0 := hq_rng m_b0
  have hb_m_b1 := hq_rng m_b1
  have hb_m_cm := hq_rng m_cm
  have hb_m_hc := hq_rng m_hc
  have hb_k := hq_rng k
  have hb_v := hq_rng v
  have hb_te := hq_rng te
  have hb_pe := hq_rng pe
  have hll9 := hBm.2.2.2.2.2.1
  have hlv9 := hBm.2.2.2.1.1
  have hvl9 := hBm.2.2.2.2.1.1
  have hvv : (v.toNatClampNeg : Int) = v.toInt := (hq_nn (by omega)).1.symm
  obtain ⟨c9, hc9⟩ : ∃ t, bk.2.2.1[v.toNatClampNeg]? = some t := ⟨_, List.getElem?_eq_getElem (by omega)⟩
  have hcd : bk.2.2.1.getD v.toInt.toNat 0 = c9 := sp_getD hc9
  have hvc := hBm.2.2.2.2.1.2 _ _ hc9
  rw [show 30 * 0 + v.toNatClampNeg = v.toNatClampNeg by omega, ← hcd] at hvc
  refine lv_iconst (v := 0) hx hb dX13_manyOf_0 (by decide) ?_
  refine lv_istore (lv' := [(5, .int (0)), (0, .ref (mo)), (1, .int (k)), (2, .int (v)), (3, .int (te)), (4, .int (pe))]) hx hb dX13_manyOf_1 hl (by decide) rfl (fun ls hl => ?_)
  refine lv_iconst (v := 0) hx hb dX13_manyOf_3 (by decide) ?_
  refine lv_istore (lv' := [(6, .int (0)), (5, .int (0)), (0, .ref (mo)), (1, .int (k)), (2, .int (v)), (3, .int (te)), (4, .int (pe))]) hx hb dX13_manyOf_4 hl (by decide) rfl (fun ls hl => ?_)
  have hl1 : (0 : Int32).toInt = 0 := by decide
  have hl2 : (0 : Int32).toInt = 0 := by decide
  suffices lp6 : ∀ (k9 : Nat) (H9 : Heap) (locs9 : List Loc) (ls : Array Slot) (no : Int32) (i : Int32), (200 - i.toInt).toNat = k9 → hp_Z D cs B s V H9 n locs9 → hq_I cs G V → 0 ≤ i.toInt → i.toInt ≤ bk.2.2.2.length → 0 ≤ no.toInt ∧ no.toInt ≤ i.toInt → (sp_riv (bk.2.2.1.getD v.toInt.toNat 0) te.toInt pe.toInt (bk.2.2.2.drop i.toNatClampNeg) no.toInt = sp_riv (bk.2.2.1.getD v.toInt.toNat 0) te.toInt pe.toInt bk.2.2.2 0) → lv_has ls 7 [(6, .int (i)), (5, .int (no)), (0, .ref (mo)), (1, .int (k)), (2, .int (v)), (3, .int (te)), (4, .int (pe))] → W p l e ({ frames := 2, cells := 0, slots := 0, locals := 45 }) s m ([.ref (mo), .int (k), .int (v), .int (te), .int (pe)] : List Value).toArray below meth c H9 locs9 0 0 (MQ below (hp_QI D cs B (fun r V' n' => n = n' ∧ V = V' ∧ (r.toInt = sp_riv (bk.2.2.1.getD v.toInt.toNat 0) te.toInt pe.toInt bk.2.2.2 0))) ([.ref (mo), .int (k), .int (v), .int (te), .int (pe)] : List Value).toArray s 0 0 (hp_F B)) (F0 m 6 ls []) from lp6 _ _ _ ls (0) (0) rfl hZ hP (by omega) (by omega) (by omega) (rfl) (lv_sub hl [0, 1, 2, 3, 4, 5, 6] rfl)
  intro k9
  induction k9 using Nat.strongRecOn with
  | _ k9 ih6 =>
    intro H9 locs9 ls no i   hk6 hZ hP    hv3 hv4 hv5 hrv hl
    have hb_no := hq_rng no
    have hb_i := hq_rng i
    refine lv_iload hx hb dX13_manyOf_6 (lv_at hl 0 rfl) ?_
    refine lv_aload_n hx hb dX13_manyOf_8 rfl (lv_at hl 2 rfl) ?_
    refine hp_get (v := .ref (q + 2)) hx hb hts hown hZ hc0 fl_X13_10 rfl dX13_manyOf_9 ?_
    refine lv_iconst (v := 0) hx hb dX13_manyOf_12 (by decide) ?_
    obtain ⟨rf6, hrf7⟩ : ∃ f : Nat → Int32, f = rh 2 := ⟨_, rfl⟩
    have ea8 : V (q + 2) = some (.inl (cs 1, 2, .inl (rf6))) := by rw [hrf7]; exact hp0 2 (by decide)
    have hra9 := hq_rg hP (hr_2 hR) ea8
    refine hp_iald hx hb hZ ea8 (by unfold vp_in; decide) dX13_manyOf_13 ?_
    refine lv_topi (fun y10 ey11 => ?_)
    have b12 : hq_ir (hq_lo 8) (hq_hi 8) y10 := by rw [ey11]; exact hra9 _ (by decide)
    have b12 : 0 ≤ (y10).toInt ∧ (y10).toInt ≤ 60 := b12
    have b13 : (y10).toInt = (bk.2.2.2.length : Int) := by rw [ey11, hrf7]; exact hBm.2.2.1
    refine lv_icmp_ge (tgt := 57) hx hb dX13_manyOf_14 (by decide) (fun c14 => ?_) (fun c14 => ?_)
    · have c14 : (y10).toInt ≤ (i).toInt := hq_lei.mp c14
      refine lv_iload hx hb dX13_manyOf_57 (lv_at hl 1 rfl) ?_
      exact hp_iret hx hb hr hlocks hZ ⟨rfl, rfl, by rw [← hrv, sp_riv_out (by have h8 := (hq_nn (z := i) (by omega)).1; omega)]⟩ dX13_manyOf_59
    · have c14 : ¬ (y10).toInt ≤ (i).toInt := fun h9 => c14 (hq_lei.mpr h9)
      have hii : (i.toNatClampNeg : Int) = i.toInt := (hq_nn (by omega)).1.symm
      obtain ⟨x9, hx9⟩ : ∃ t, bk.2.2.2[i.toNatClampNeg]? = some t := ⟨_, List.getElem?_eq_getElem (by omega)⟩
      obtain ⟨hq1, hq2, hq3, hq4, -⟩ := hBm.2.2.2.2.2.2 _ _ hx9
      rw [show 60 * 0 + i.toNatClampNeg = i.toNatClampNeg by omega] at hq1 hq2 hq3 hq4
      refine lv_iload hx hb dX13_manyOf_17 (lv_at hl 1 rfl) ?_
      refine lv_aload_n hx hb dX13_manyOf_19 rfl (lv_at hl 2 rfl) ?_
      refine hp_get (v := .ref (q + 10)) hx hb hts hown hZ hc0 fl_X13_29 rfl dX13_manyOf_20 ?_
      refine lv_iload hx hb dX13_manyOf_23 (lv_at hl 0 rfl) ?_
      obtain ⟨rf15, hrf16⟩ : ∃ f : Nat → Int32, f = rh 10 := ⟨_, rfl⟩
      have ea17 : V (q + 10) = some (.inl (cs 1, 120, .inl (rf15))) := by rw [hrf16]; exact hp0 10 (by decide)
      have hra18 := hq_rg hP (hr_10 hR) ea17
      refine hp_iald hx hb hZ ea17 (hq_in (by omega) (by omega)) dX13_manyOf_25 ?_
      refine lv_topi (fun y19 ey20 => ?_)
      have b21 := hq_rng y19
      have b22 : (y19).toInt = (rh 10 (i).toNatClampNeg).toInt := by rw [ey20, hrf16]
      refine lv_iload_n hx hb dX13_manyOf_26 rfl (lv_at hl 3 rfl) ?_
      refine lv_icmp_ne (tgt := 47) hx hb dX13_manyOf_27 (by decide) (fun c23 => ?_) (fun c23 => ?_)
      · have c23 : ¬ (y19).toInt = (k).toInt := fun h9 => c23 (hq_eqi.mpr h9)
        refine lv_iconst (v := 0) hx hb dX13_manyOf_47 (by decide) ?_
        have hl24 : (0 : Int32).toInt = 0 := by decide
        refine lv_iadd hx hb dX13_manyOf_48 ?_
        refine lv_topi (fun y25 ey26 => ?_)
        obtain ⟨k27, hk28, b29, b30⟩ := hq_add (no) (0)
        rw [← ey26] at hk28 b29 b30
        have hk28 : (y25).toInt = (no).toInt + (0 : Int) + k27 * 4294967296 := hk28
        obtain rfl : k27 = 0 := by omega
        refine lv_istore (lv' := [(5, .int (y25)), (6, .int (i)), (0, .ref (mo)), (1, .int (k)), (2, .int (v)), (3, .int (te)), (4, .int (pe))]) hx hb dX13_manyOf_49 hl (by decide) rfl (fun ls hl => ?_)
        obtain ⟨y31, ey32⟩ : ∃ y : Int32, y = i + (1) := ⟨_, rfl⟩
        obtain ⟨k33, hk34, b35, b36⟩ := hq_add (i) (1)
        rw [← ey32] at hk34 b35 b36
        have hk34 : (y31).toInt = (i).toInt + (1) + k33 * 4294967296 := hk34
        obtain rfl : k33 = 0 := by omega
        refine lv_iinc (v := y31) (lv' := [(6, .int (y31)), (5, .int (y25)), (0, .ref (mo)), (1, .int (k)), (2, .int (v)), (3, .int (te)), (4, .int (pe))]) hx hb dX13_manyOf_51 hl (k := 1) rfl (by rw [ey32]; rfl) (by decide) rfl (fun ls hl => ?_)
        refine lv_goto (tgt := 6) hx hb dX13_manyOf_54 (by decide) ?_
        exact ih6 _ (by omega) _ _ ls (y25) (y31) rfl hZ hP (by omega) (by omega) (by omega) (by rw [← hrv, sp_riv_go hx9, if_neg (by omega), show (y31).toNatClampNeg = i.toNatClampNeg + 1 from (by have h8 := (hq_nn (z := y31) (by omega)).1; omega), show (y25).toInt = no.toInt by omega]) (lv_sub hl [0, 1, 2, 3, 4, 5, 6] rfl)
      · have c23 : (y19).toInt = (k).toInt := hq_eqi.mp c23
        refine lv_aload_n hx hb dX13_manyOf_30 rfl (lv_at hl 2 rfl) ?_
        refine lv_iload hx hb dX13_manyOf_31 (lv_at hl 0 rfl) ?_
        refine lv_iload_n hx hb dX13_manyOf_33 rfl (lv_at hl 4 rfl) ?_
        refine lv_iload_n hx hb dX13_manyOf_34 rfl (lv_at hl 5 rfl) ?_
        refine lv_iload hx hb dX13_manyOf_35 (lv_at hl 6 rfl) ?_
        refine hp_calli (hp_runV (As := [.int (i), .int (v), .int (te), .int (pe)]) (rest := [.int (no)]) hx hb hml hown hts (y_fits l D cs B G V n hP (q) (mo) (rh) (m_tp) (m_sz) (m_fr) (m_bh) (m_hd) (m_ft) (m_fa) (m_le) (m_fo) (m_as) (m_fd) (m_bc) (m_bg) (m_bs) (m_be) (m_b0) (m_b1) (m_cm) (m_hc) (i) (v) (te) (pe)  hc0 hp0 hR hmo (by omega) (by omega) (by omega)) hZ hc0 cv_X13_327 rfl rfl ⟨Nat.le_of_ble_eq_true rfl, Nat.le_of_ble_eq_true rfl⟩ rfl hl.1 rfl (Nat.le_of_ble_eq_true rfl) dX13_manyOf_37 ⟨(Nat.le_of_ble_eq_true rfl), (Nat.le_of_ble_eq_true rfl)⟩) hZ (fun r40 V37 n38 _ _ hw39 hZ => ?_)
        obtain ⟨rfl, rfl, hp43⟩ := hw39
        have b44 := hq_rng r40
        refine lv_if_eq (tgt := 47) hx hb dX13_manyOf_40 (by decide) (fun c45 => ?_) (fun c45 => ?_)
        · have c45 : (r40).toInt = (0 : Int) := hq_eqi.mp c45
          refine lv_iconst (v := 0) hx hb dX13_manyOf_47 (by decide) ?_
          have hl46 : (0 : Int32).toInt = 0 := by decide
          refine lv_iadd hx hb dX13_manyOf_48 ?_
          refine lv_topi (fun y47 ey48 => ?_)
          obtain ⟨k49, hk50, b51, b52⟩ := hq_add (no) (0)
          rw [← ey48] at hk50 b51 b52
          have hk50 : (y47).toInt = (no).toInt + (0 : Int) + k49 * 4294967296 := hk50
          obtain rfl : k49 = 0 := by omega
          refine lv_istore (lv' := [(5, .int (y47)), (6, .int (i)), (0, .ref (mo)), (1, .int (k)), (2, .int (v)), (3, .int (te)), (4, .int (pe))]) hx hb dX13_manyOf_49 hl (by decide) rfl (fun ls hl => ?_)
          obtain ⟨y53, ey54⟩ : ∃ y : Int32, y = i + (1) := ⟨_, rfl⟩
          obtain ⟨k55, hk56, b57, b58⟩ := hq_add (i) (1)
          rw [← ey54] at hk56 b57 b58
          have hk56 : (y53).toInt = (i).toInt + (1) + k55 * 4294967296 := hk56
          obtain rfl : k55 = 0 := by omega
          refine lv_iinc (v := y53) (lv' := [(6, .int (y53)), (5, .int (y47)), (0, .ref (mo)), (1, .int (k)), (2, .int (v)), (3, .int (te)), (4, .int (pe))]) hx hb dX13_manyOf_51 hl (k := 1) rfl (by rw [ey54]; rfl) (by decide) rfl (fun ls hl => ?_)
          refine lv_goto (tgt := 6) hx hb dX13_manyOf_54 (by decide) ?_
          exact ih6 _ (by omega) _ _ ls (y47) (y53) rfl hZ hP (by omega) (by omega) (by omega) (by rw [← hrv, sp_riv_go hx9, if_neg (by omega), show (y53).toNatClampNeg = i.toNatClampNeg + 1 from (by have h8 := (hq_nn (z := y53) (by omega)).1; omega), show (y47).toInt = no.toInt by omega]) (lv_sub hl [0, 1, 2, 3, 4, 5, 6] rfl)
        · have c45 : ¬ (r40).toInt = (0 : Int) := fun h9 => c45 (hq_eqi.mpr h9)
          refine lv_iconst (v := 1) hx hb dX13_manyOf_43 (by decide) ?_
          refine lv_goto (tgt := 48) hx hb dX13_manyOf_44 (by decide) ?_
          have hl59 : (1 : Int32).toInt = 1 := by decide
          refine lv_iadd hx hb dX13_manyOf_48 ?_
          refine lv_topi (fun y60 ey61 => ?_)
          obtain ⟨k62, hk63, b64, b65⟩ := hq_add (no) (1)
          rw [← ey61] at hk63 b64 b65
          have hk63 : (y60).toInt = (no).toInt + (1 : Int) + k62 * 4294967296 := hk63
          obtain rfl : k62 = 0 := by omega
          refine lv_istore (lv' := [(5, .int (y60)), (6, .int (i)), (0, .ref (mo)), (1, .int (k)), (2, .int (v)), (3, .int (te)), (4, .int (pe))]) hx hb dX13_manyOf_49 hl (by decide) rfl (fun ls hl => ?_)
          obtain ⟨y66, ey67⟩ : ∃ y : Int32, y = i + (1) := ⟨_, rfl⟩
          obtain ⟨k68, hk69, b70, b71⟩ := hq_add (i) (1)
          rw [← ey67] at hk69 b70 b71
          have hk69 : (y66).toInt = (i).toInt + (1) + k68 * 4294967296 := hk69
          obtain rfl : k68 = 0 := by omega
          refine lv_iinc (v := y66) (lv' := [(6, .int (y66)), (5, .int (y60)), (0, .ref (mo)), (1, .int (k)), (2, .int (v)), (3, .int (te)), (4, .int (pe))]) hx hb dX13_manyOf_51 hl (k := 1) rfl (by rw [ey67]; rfl) (by decide) rfl (fun ls hl => ?_)
          refine lv_goto (tgt := 6) hx hb dX13_manyOf_54 (by decide) ?_
          exact ih6 _ (by omega) _ _ ls (y60) (y66) rfl hZ hP (by omega) (by omega) (by omega) (by rw [← hrv, sp_riv_go hx9, if_pos (by omega), show (y66).toNatClampNeg = i.toNatClampNeg + 1 from (by have h8 := (hq_nn (z := y66) (by omega)).1; omega), show (y60).toInt = no.toInt + 1 by omega]) (lv_sub hl [0, 1, 2, 3, 4, 5, 6] rfl)

set_option maxHeartbeats 4000000 in
set_option maxRecDepth 100000 in
theorem y_isPlace (l : Launch) (D : va_G) (cs : Nat → ClassId) (B : Nat) (G : hq_G) (V : hp_V) (n : Nat) (hI : hq_I cs G V) (q : Nat) (mo : Nat) (rh : hm_Rh) (m_tp : Int32) (m_sz : Int32) (m_fr : Int32) (m_bh : Int32) (m_hd : Int32) (m_ft : Int32) (m_fa : Int32) (m_le : Int32) (m_fo : Int32) (m_as : Int32) (m_fd : Int32) (m_bc : Int32) (m_bg : Int32) (m_bs : Int32) (m_be : Int32) (m_b0 : Int32) (m_b1 : Int32) (m_cm : Int32) (m_hc : Int32) (v : Int32) (te : Int32) (pe : Int32) (hc0 : V (mo) = some (.inr (13, hm_o q (m_tp) (m_sz) (m_fr) (m_bh) (m_hd) (m_ft) (m_fa) (m_le) (m_fo) (m_as) (m_fd) (m_bc) (m_bg) (m_bs) (m_be) (m_b0) (m_b1) (m_cm) (m_hc)))) (hp0 : hm_AR cs V q rh) (hR : hq_RT G q) (hmo : G mo = some (24, 0, 0, 0)) : hp_M l yX13_isPlace cX13_isPlace 4 (some .boolean) ({ frames := 3, cells := 0, slots := 0, locals := 67 }) D cs B V n [.ref (mo), .int (v), .int (te), .int (pe)] (hp_QI D cs B (fun r V' n' => n = n' ∧ V = V' ∧ ((r.toInt = 1 ∧ (0 ≤ v.toInt ∧ v.toInt < (rh 1 0).toInt ∧ 0 ≤ te.toInt ∧ te.toInt < 5 ∧ 0 ≤ pe.toInt ∧ pe.toInt < 6)) ∨ (r.toInt = 0 ∧ ¬ (0 ≤ v.toInt ∧ v.toInt < (rh 1 0).toInt ∧ 0 ≤ te.toInt ∧ te.toInt < 5 ∧ 0 ≤ pe.toInt ∧ pe.toInt < 6))))) 0 0 := by
  refine hp_walk (R0 := RX13) (by decide) rfl ?_ (Nat.le_of_ble_eq_true rfl)
  intro p e s m below meth c ls hx hb hr hts hown hlocks hin hml hZ hl
  have hP : hq_I cs G V := hI
  have hl : lv_has ls 4 [(0, .ref (mo)), (1, .int (v)), (2, .int (te)), (3, .int (pe))] := hl
  have hb_m_tp := hq_rng m_tp
  have hb_m_sz := hq_rng m_sz
  have hb_m_fr := hq_rng m_fr
  have hb_m_bh := hq_rng m_bh
  have hb_m_hd := hq_rng m_hd
  have hb_m_ft := hq_rng m_ft
  have hb_m_fa := hq_rng m_fa
  have hb_m_le := hq_rng m_le
  have hb_m_fo := hq_rng m_fo
  have hb_m_as := hq_rng m_as
  have hb_m_fd := hq_rng m_fd
  have hb_m_bc := hq_rng m_bc
  have hb_m_bg := hq_rng m_bg
  have hb_m_bs := hq_rng m_bs
  have hb_m_be := hq_rng m_be
  have hb_m_b0 := hq_rng m_b0
  have hb_m_b1 := hq_rng m_b1
  have hb_m_cm := hq_rng m_cm
  have hb_m_hc := hq_rng m_hc
  have hb_v := hq_rng v
  have hb_te := hq_rng te
  have hb_pe := hq_rng pe
  have hL0 : (0 : Int64).toInt = 0 := by decide
  have hL1 : (1 : Int64).toInt = 1 := by decide
  have hL4 : (4 : Int64).toInt = 4 := by decide
  have hL5 : (5 : Int64).toInt = 5 := by decide
  have hL9 : (9 : Int64).toInt = 9 := by decide
  have hL10 : (10 : Int64).toInt = 10 := by decide
  refine lv_aload_n hx hb dX13_isPlace_0 rfl (lv_at hl 0 rfl) ?_
  refine lv_iload_n hx hb dX13_isPlace_1 rfl (lv_at hl 1 rfl) ?_
  refine hp_calli (hp_runV (As := [.int (v)]) (rest := []) hx hb hml hown hts (y_isVerb l D cs B G V n hP (q) (mo) (rh) (m_tp) (m_sz) (m_fr) (m_bh) (m_hd) (m_ft) (m_fa) (m_le) (m_fo) (m_as) (m_fd) (m_bc) (m_bg) (m_bs) (m_be) (m_b0) (m_b1) (m_cm) (m_hc) (v)  hc0 hp0 hR hmo) hZ hc0 cv_X13_317 rfl rfl ⟨Nat.le_of_ble_eq_true rfl, Nat.le_of_ble_eq_true rfl⟩ rfl hl.1 rfl (Nat.le_of_ble_eq_true rfl) dX13_isPlace_2 ⟨(Nat.le_of_ble_eq_true rfl), (Nat.le_of_ble_eq_true rfl)⟩) hZ (fun r4 V1 n2 _ _ hw3 hZ => ?_)
  obtain ⟨rfl, rfl, hp7⟩ := hw3
  have b8 := hq_rng r4
  refine lv_if_eq (tgt := 36) hx hb dX13_isPlace_5 (by decide) (fun c9 => ?_) (fun c9 => ?_)
  · have c9 : (r4).toInt = (0 : Int) := hq_eqi.mp c9
    refine lv_iconst (v := 0) hx hb dX13_isPlace_36 (by decide) ?_
    have hl10 : (0 : Int32).toInt = 0 := by decide
    exact hp_zret hx hb hr rfl hlocks hZ ⟨rfl, rfl, (by omega)⟩ dX13_isPlace_37
  · have c9 : ¬ (r4).toInt = (0 : Int) := fun h9 => c9 (hq_eqi.mpr h9)
    refine lv_iload_n hx hb dX13_isPlace_8 rfl (lv_at hl 2 rfl) ?_
    refine lv_i2l (v := (te).toInt64) hx hb dX13_isPlace_9 rfl ?_
    refine lv_topl (fun y11 ey12 => ?_)
    have b13 : (y11).toInt = (te).toInt := by rw [ey12]; exact hm_i2l _
    refine lv_lconst (v := 0) hx hb dX13_isPlace_10 (by decide) ?_
    refine lv_ldc2 (v := 4) hx hb hown (hts _ k64_X13_376) dX13_isPlace_11 ?_
    refine hp_calli (hp_runS (As := [.long (y11), .long (0), .long (4)]) (rest := []) hx hb hml hown hts (y_in l D cs B G V n hP (y11) (0) (4)    ) hZ cv_X13_301 rfl rfl ⟨Nat.le_of_ble_eq_true rfl, Nat.le_of_ble_eq_true rfl⟩ rfl hl.1 rfl (Nat.le_of_ble_eq_true rfl) dX13_isPlace_14 ⟨(Nat.le_of_ble_eq_true rfl), (Nat.le_of_ble_eq_true rfl)⟩) hZ (fun r17 V14 n15 _ _ hw16 hZ => ?_)
    obtain ⟨rfl, rfl, hp20⟩ := hw16
    have b21 := hq_rng r17
    refine lv_if_eq (tgt := 36) hx hb dX13_isPlace_17 (by decide) (fun c22 => ?_) (fun c22 => ?_)
    · have c22 : (r17).toInt = (0 : Int) := hq_eqi.mp c22
      refine lv_iconst (v := 0) hx hb dX13_isPlace_36 (by decide) ?_
      have hl23 : (0 : Int32).toInt = 0 := by decide
      exact hp_zret hx hb hr rfl hlocks hZ ⟨rfl, rfl, (by omega)⟩ dX13_isPlace_37
    · have c22 : ¬ (r17).toInt = (0 : Int) := fun h9 => c22 (hq_eqi.mpr h9)
      refine lv_iload_n hx hb dX13_isPlace_20 rfl (lv_at hl 3 rfl) ?_
      refine lv_i2l (v := (pe).toInt64) hx hb dX13_isPlace_21 rfl ?_
      refine lv_topl (fun y24 ey25 => ?_)
      have b26 : (y24).toInt = (pe).toInt := by rw [ey25]; exact hm_i2l _
      refine lv_lconst (v := 0) hx hb dX13_isPlace_22 (by decide) ?_
      refine lv_ldc2 (v := 5) hx hb hown (hts _ k64_X13_378) dX13_isPlace_23 ?_
      refine hp_calli (hp_runS (As := [.long (y24), .long (0), .long (5)]) (rest := []) hx hb hml hown hts (y_in l D cs B G V n hP (y24) (0) (5)    ) hZ cv_X13_301 rfl rfl ⟨Nat.le_of_ble_eq_true rfl, Nat.le_of_ble_eq_true rfl⟩ rfl hl.1 rfl (Nat.le_of_ble_eq_true rfl) dX13_isPlace_26 ⟨(Nat.le_of_ble_eq_true rfl), (Nat.le_of_ble_eq_true rfl)⟩) hZ (fun r30 V27 n28 _ _ hw29 hZ => ?_)
      obtain ⟨rfl, rfl, hp33⟩ := hw29
      have b34 := hq_rng r30
      refine lv_if_eq (tgt := 36) hx hb dX13_isPlace_29 (by decide) (fun c35 => ?_) (fun c35 => ?_)
      · have c35 : (r30).toInt = (0 : Int) := hq_eqi.mp c35
        refine lv_iconst (v := 0) hx hb dX13_isPlace_36 (by decide) ?_
        have hl36 : (0 : Int32).toInt = 0 := by decide
        exact hp_zret hx hb hr rfl hlocks hZ ⟨rfl, rfl, (by omega)⟩ dX13_isPlace_37
      · have c35 : ¬ (r30).toInt = (0 : Int) := fun h9 => c35 (hq_eqi.mpr h9)
        refine lv_iconst (v := 1) hx hb dX13_isPlace_32 (by decide) ?_
        refine lv_goto (tgt := 37) hx hb dX13_isPlace_33 (by decide) ?_
        have hl37 : (1 : Int32).toInt = 1 := by decide
        exact hp_zret hx hb hr rfl hlocks hZ ⟨rfl, rfl, (by omega)⟩ dX13_isPlace_37

set_option maxHeartbeats 4000000 in
set_option maxRecDepth 100000 in
theorem y_rivals (l : Launch) (D : va_G) (cs : Nat → ClassId) (B : Nat) (G : hq_G) (V : hp_V) (n : Nat) (hI : hq_I cs G V) (q : Nat) (mo : Nat) (w : sp_W) (bk : sp_B) (rh : hm_Rh) (m_tp : Int32) (m_sz : Int32) (m_fr : Int32) (m_bh : Int32) (m_hd : Int32) (m_ft : Int32) (m_fa : Int32) (m_le : Int32) (m_fo : Int32) (m_as : Int32) (m_fd : Int32) (m_bc : Int32) (m_bg : Int32) (m_bs : Int32) (m_be : Int32) (m_b0 : Int32) (m_b1 : Int32) (m_cm : Int32) (m_hc : Int32) (v : Int32) (te : Int32) (pe : Int32) (hc0 : V (mo) = some (.inr (13, hm_o q (m_tp) (m_sz) (m_fr) (m_bh) (m_hd) (m_ft) (m_fa) (m_le) (m_fo) (m_as) (m_fd) (m_bc) (m_bg) (m_bs) (m_be) (m_b0) (m_b1) (m_cm) (m_hc)))) (hp0 : hm_AR cs V q rh) (hR : hq_RT G q) (hmo : G mo = some (24, 0, 0, 0)) (hBm : hm_BK rh 0 w bk) : hp_M l yX13_rivals cX13_rivals 4 (some .int) ({ frames := 4, cells := 0, slots := 0, locals := 90 }) D cs B V n [.ref (mo), .int (v), .int (te), .int (pe)] (hp_QI D cs B (fun r V' n' => n = n' ∧ V = V' ∧ (r.toInt = sp_rivt bk v.toInt te.toInt pe.toInt))) 0 0 := by
  refine hp_walk (R0 := RX13) (by decide) rfl ?_ (Nat.le_of_ble_eq_true rfl)
  intro p e s m below meth c ls hx hb hr hts hown hlocks hin hml hZ hl
  have hP : hq_I cs G V := hI
  have hl : lv_has ls 4 [(0, .ref (mo)), (1, .int (v)), (2, .int (te)), (3, .int (pe))] := hl
  have hb_m_tp := hq_rng m_tp
  have hb_m_sz := hq_rng m_sz
  have hb_m_fr := hq_rng m_fr
  have hb_m_bh := hq_rng m_bh
  have hb_m_hd := hq_rng m_hd
  have hb_m_ft := hq_rng m_ft
  have hb_m_fa := hq_rng m_fa
  have hb_m_le := hq_rng m_le
  have hb_m_fo := hq_rng m_fo
  have hb_m_as := hq_rng m_as
  have hb_m_fd := hq_rng m_fd
  have hb_m_bc := hq_rng m_bc
  have hb_m_bg := hq_rng m_bg
  have hb_m_bs := hq_rng m_bs
  have hb_m_be := hq_rng m_be
  have hb_m_b0 := hq_rng m_b0
  have hb_m_b1 := hq_rng m_b1
  have hb_m_cm := hq_rng m_cm
  have hb_m_hc := hq_rng m_hc
  have hb_v := hq_rng v
  have hb_te := hq_rng te
  have hb_pe := hq_rng pe
  have hcv := hBm.2.1
  refine lv_aload_n hx hb dX13_rivals_0 rfl (lv_at hl 0 rfl) ?_
  refine lv_iload_n hx hb dX13_rivals_1 rfl (lv_at hl 1 rfl) ?_
  refine lv_iload_n hx hb dX13_rivals_2 rfl (lv_at hl 2 rfl) ?_
  refine lv_iload_n hx hb dX13_rivals_3 rfl (lv_at hl 3 rfl) ?_
  refine hp_calli (hp_runV (As := [.int (v), .int (te), .int (pe)]) (rest := []) hx hb hml hown hts (y_isPlace l D cs B G V n hP (q) (mo) (rh) (m_tp) (m_sz) (m_fr) (m_bh) (m_hd) (m_ft) (m_fa) (m_le) (m_fo) (m_as) (m_fd) (m_bc) (m_bg) (m_bs) (m_be) (m_b0) (m_b1) (m_cm) (m_hc) (v) (te) (pe)  hc0 hp0 hR hmo) hZ hc0 cv_X13_380 rfl rfl ⟨Nat.le_of_ble_eq_true rfl, Nat.le_of_ble_eq_true rfl⟩ rfl hl.1 rfl (Nat.le_of_ble_eq_true rfl) dX13_rivals_4 ⟨(Nat.le_of_ble_eq_true rfl), (Nat.le_of_ble_eq_true rfl)⟩) hZ (fun r4 V1 n2 _ _ hw3 hZ => ?_)
  obtain ⟨rfl, rfl, hp7⟩ := hw3
  have b8 := hq_rng r4
  refine lv_if_eq (tgt := 21) hx hb dX13_rivals_7 (by decide) (fun c9 => ?_) (fun c9 => ?_)
  · have c9 : (r4).toInt = (0 : Int) := hq_eqi.mp c9
    refine lv_bipush (v := -2) hx hb dX13_rivals_21 (by decide) ?_
    have hl10 : (-2 : Int32).toInt = -2 := by decide
    have hl9 : (-2 : Int32).toInt = -2 := by decide
    exact hp_iret hx hb hr hlocks hZ ⟨rfl, rfl, by unfold sp_rivt; rw [if_neg (by omega)]; omega⟩ dX13_rivals_23
  · have c9 : ¬ (r4).toInt = (0 : Int) := fun h9 => c9 (hq_eqi.mpr h9)
    refine lv_aload_n hx hb dX13_rivals_10 rfl (lv_at hl 0 rfl) ?_
    refine lv_iconst (v := 1) hx hb dX13_rivals_11 (by decide) ?_
    refine lv_iload_n hx hb dX13_rivals_12 rfl (lv_at hl 1 rfl) ?_
    refine lv_iload_n hx hb dX13_rivals_13 rfl (lv_at hl 2 rfl) ?_
    refine lv_iload_n hx hb dX13_rivals_14 rfl (lv_at hl 3 rfl) ?_
    have hl11 : (1 : Int32).toInt = 1 := by decide
    refine hp_calli (hp_runV (As := [.int (1), .int (v), .int (te), .int (pe)]) (rest := []) hx hb hml hown hts (y_manyOf l D cs B G V n hP (q) (mo) (w) (bk) (rh) (m_tp) (m_sz) (m_fr) (m_bh) (m_hd) (m_ft) (m_fa) (m_le) (m_fo) (m_as) (m_fd) (m_bc) (m_bg) (m_bs) (m_be) (m_b0) (m_b1) (m_cm) (m_hc) (1) (v) (te) (pe)  hc0 hp0 hR hmo hBm (by decide) (by omega)) hZ hc0 cv_X13_386 rfl rfl ⟨Nat.le_of_ble_eq_true rfl, Nat.le_of_ble_eq_true rfl⟩ rfl hl.1 rfl (Nat.le_of_ble_eq_true rfl) dX13_rivals_15 ⟨(Nat.le_of_ble_eq_true rfl), (Nat.le_of_ble_eq_true rfl)⟩) hZ (fun r15 V12 n13 _ _ hw14 hZ => ?_)
    obtain ⟨rfl, rfl, hp18⟩ := hw14
    have b19 := hq_rng r15
    refine lv_goto (tgt := 23) hx hb dX13_rivals_18 (by decide) ?_
    exact hp_iret hx hb hr hlocks hZ ⟨rfl, rfl, by unfold sp_rivt; rw [if_pos (by omega)]; exact hp18⟩ dX13_rivals_23

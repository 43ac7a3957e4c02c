set_option maxHeartbeats 4000000 in
set_option maxRecDepth 100000 in
theorem x_ofVerb (l : Launch) (D : va_G) (cs : Nat → ClassId) (B : Nat) (G : hq_G) (V : hp_V) (n : Nat) (hI : hq_I cs G V) (la : Nat) (ak : Int32) (ao : Int32) (at9 : Int32) (ap : Int32) (ah : Int32) (aht : Int32) (apa : Int32) (ala : Int32) (hc0 : V (la) = some (.inr (5, [.int (ak), .int (ao), .int (at9), .int (ap), .int (ah), .int (aht), .int (apa), .int (ala), .ref (la + 1), .ref (la + 3)]))) : hp_M l yX5_isOfVerb cX5_isOfVerb 1 (some .boolean) ({ frames := 1, cells := 0, slots := 0, locals := 21 }) D cs B V n [.ref (la)] (hp_QI D cs B (fun r V' n' => n = n' ∧ V = V' ∧ ((r.toInt = 1 ∧ (ak.toInt = 4 ∨ ak.toInt = 5)) ∨ (r.toInt = 0 ∧ ¬ (ak.toInt = 4 ∨ ak.toInt = 5))))) 0 0 := by
  refine hp_walk (R0 := RX5) (by decide) rfl ?_ (Nat.le_of_ble_eq_true rfl)
  intro p e s m below meth c ls hx hb hr hts hown hlocks hin hml hZ hl
  have hP : hq_I cs G V := hI
  have hl : lv_has ls 1 [(0, .ref (la))] := hl
  have hb_ak := hq_rng ak
  have hb_ao := hq_rng ao
  have hb_at9 := hq_rng at9
  have hb_ap := hq_rng ap
  have hb_ah := hq_rng ah
  have hb_aht := hq_rng aht
  have hb_apa := hq_rng apa
  have hb_ala := hq_rng ala
  refine lv_aload_n hx hb dX5_isOfVerb_0 rfl (lv_at hl 0 rfl) ?_
  refine hp_get (v := .int (ak)) hx hb hts hown hZ hc0 fl_X5_23 rfl dX5_isOfVerb_1 ?_
  refine lv_iconst (v := 4) hx hb dX5_isOfVerb_4 (by decide) ?_
  refine lv_icmp_eq (tgt := 16) hx hb dX5_isOfVerb_5 (by decide) (fun c1 => ?_) (fun c1 => ?_)
  · have c1 : (ak).toInt = (4 : Int) := hq_eqi.mp c1
    refine lv_iconst (v := 1) hx hb dX5_isOfVerb_16 (by decide) ?_
    refine lv_goto (tgt := 21) hx hb dX5_isOfVerb_17 (by decide) ?_
    have hl2 : (1 : Int32).toInt = 1 := by decide
    exact hp_zret hx hb hr rfl hlocks hZ ⟨rfl, rfl, (by omega)⟩ dX5_isOfVerb_21
  · have c1 : ¬ (ak).toInt = (4 : Int) := fun h9 => c1 (hq_eqi.mpr h9)
    refine lv_aload_n hx hb dX5_isOfVerb_8 rfl (lv_at hl 0 rfl) ?_
    refine hp_get (v := .int (ak)) hx hb hts hown hZ hc0 fl_X5_23 rfl dX5_isOfVerb_9 ?_
    refine lv_iconst (v := 5) hx hb dX5_isOfVerb_12 (by decide) ?_
    refine lv_icmp_ne (tgt := 20) hx hb dX5_isOfVerb_13 (by decide) (fun c3 => ?_) (fun c3 => ?_)
    · have c3 : ¬ (ak).toInt = (5 : Int) := fun h9 => c3 (hq_eqi.mpr h9)
      refine lv_iconst (v := 0) hx hb dX5_isOfVerb_20 (by decide) ?_
      have hl4 : (0 : Int32).toInt = 0 := by decide
      exact hp_zret hx hb hr rfl hlocks hZ ⟨rfl, rfl, (by omega)⟩ dX5_isOfVerb_21
    · have c3 : (ak).toInt = (5 : Int) := hq_eqi.mp c3
      refine lv_iconst (v := 1) hx hb dX5_isOfVerb_16 (by decide) ?_
      refine lv_goto (tgt := 21) hx hb dX5_isOfVerb_17 (by decide) ?_
      have hl5 : (1 : Int32).toInt = 1 := by decide
      exact hp_zret hx hb hr rfl hlocks hZ ⟨rfl, rfl, (by omega)⟩ dX5_isOfVerb_21

set_option maxHeartbeats 4000000 in
set_option maxRecDepth 100000 in
theorem x_fitsG (l : Launch) (D : va_G) (cs : Nat → ClassId) (B : Nat) (G : hq_G) (V : hp_V) (n : Nat) (hI : hq_I cs G V) (qt : Nat) (la : Nat) (c9 : Int) (i : Int32) (v : Int32) (te : Int32) (pe : Int32) (bc : Int32) (bv : Int32) (bl : Int32) (ak : Int32) (ao : Int32) (at9 : Int32) (ap : Int32) (ah : Int32) (aht : Int32) (apa : Int32) (ala : Int32) (g3 : Nat → Option Nat) (vf : Nat → Int32) (hc0 : V (qt) = some (.inr (0, [.ref (qt + 1), .int (bc), .ref (qt + 14), .ref (qt + 75), .int (bv), .ref (qt + 76), .int (bl)]))) (hc1 : V (la) = some (.inr (5, [.int (ak), .int (ao), .int (at9), .int (ap), .int (ah), .int (aht), .int (apa), .int (ala), .ref (la + 1), .ref (la + 3)]))) (hc2 : V (qt + 76) = some (.inl (cs 6, 60, .inr (.inr (.inr (.inr (g3))))))) (hc3 : V (qt + 75) = some (.inl (cs 1, 30, .inl (vf)))) (hi : 0 ≤ i.toInt ∧ i.toInt < 60) (hv : 0 ≤ v.toInt ∧ v.toInt < 30) (hla : g3 i.toNatClampNeg = some la) (hc9 : (vf v.toNatClampNeg).toInt = c9) : hp_M l yX0_fits cX0_fits 6 (some .boolean) ({ frames := 2, cells := 0, slots := 0, locals := 41 }) D cs B V n [.ref (qt), .int (i), .int (v), .int (te), .int (pe)] (hp_QI D cs B (fun r V' n' => n = n' ∧ V = V' ∧ ((r.toInt = 1 ∧ (at9.toInt = te.toInt ∧ (ap.toInt = -1 ∨ ap.toInt = pe.toInt) ∧ (((ak.toInt = 4 ∨ ak.toInt = 5) ∧ ao.toInt = v.toInt) ∨ (¬ (ak.toInt = 4 ∨ ak.toInt = 5) ∧ (ao.toInt = -1 ∨ ao.toInt = c9))))) ∨ (r.toInt = 0 ∧ ¬ (at9.toInt = te.toInt ∧ (ap.toInt = -1 ∨ ap.toInt = pe.toInt) ∧ (((ak.toInt = 4 ∨ ak.toInt = 5) ∧ ao.toInt = v.toInt) ∨ (¬ (ak.toInt = 4 ∨ ak.toInt = 5) ∧ (ao.toInt = -1 ∨ ao.toInt = c9)))))))) 0 0 := by
  refine hp_walk (R0 := RX0) (by decide) rfl ?_ (Nat.le_of_ble_eq_true rfl)
  intro p e s m below meth c ls hx hb hr hts hown hlocks hin hml hZ hl
  have hP : hq_I cs G V := hI
  have hl : lv_has ls 6 [(0, .ref (qt)), (1, .int (i)), (2, .int (v)), (3, .int (te)), (4, .int (pe))] := hl
  have hb_i := hq_rng i
  have hb_v := hq_rng v
  have hb_te := hq_rng te
  have hb_pe := hq_rng pe
  have hb_bc := hq_rng bc
  have hb_bv := hq_rng bv
  have hb_bl := hq_rng bl
  have hb_ak := hq_rng ak
  have hb_ao := hq_rng ao
  have hb_at9 := hq_rng at9
  have hb_ap := hq_rng ap
  have hb_ah := hq_rng ah
  have hb_aht := hq_rng aht
  have hb_apa := hq_rng apa
  have hb_ala := hq_rng ala
  refine lv_aload_n hx hb dX0_fits_0 rfl (lv_at hl 0 rfl) ?_
  refine hp_get (v := .ref (qt + 76)) hx hb hts hown hZ hc0 fl_X0_29 rfl dX0_fits_1 ?_
  refine lv_iload_n hx hb dX0_fits_4 rfl (lv_at hl 1 rfl) ?_
  refine hp_aald (v := .ref (la)) hx hb hZ 6 hc2 rfl (hq_in (by omega) (by omega)) (by rw [hla]; rfl) dX0_fits_5 ?_
  refine lv_astore (lv' := [(5, .ref (la)), (0, .ref (qt)), (1, .int (i)), (2, .int (v)), (3, .int (te)), (4, .int (pe))]) hx hb dX0_fits_6 hl (by decide) rfl (fun ls hl => ?_)
  refine lv_aload hx hb dX0_fits_8 (lv_at hl 0 rfl) ?_
  refine hp_get (v := .int (at9)) hx hb hts hown hZ hc1 fl_X0_48 rfl dX0_fits_10 ?_
  refine lv_iload_n hx hb dX0_fits_13 rfl (lv_at hl 4 rfl) ?_
  refine lv_icmp_ne (tgt := 36) hx hb dX0_fits_14 (by decide) (fun c1 => ?_) (fun c1 => ?_)
  · have c1 : ¬ (at9).toInt = (te).toInt := fun h9 => c1 (hq_eqi.mpr h9)
    refine lv_iconst (v := 0) hx hb dX0_fits_36 (by decide) ?_
    have hl2 : (0 : Int32).toInt = 0 := by decide
    exact hp_zret hx hb hr rfl hlocks hZ ⟨rfl, rfl, (by omega)⟩ dX0_fits_37
  · have c1 : (at9).toInt = (te).toInt := hq_eqi.mp c1
    refine lv_aload hx hb dX0_fits_17 (lv_at hl 0 rfl) ?_
    refine hp_get (v := .int (ap)) hx hb hts hown hZ hc1 fl_X0_51 rfl dX0_fits_19 ?_
    refine lv_iconst (v := -1) hx hb dX0_fits_22 (by decide) ?_
    refine lv_icmp_eq (tgt := 38) hx hb dX0_fits_23 (by decide) (fun c3 => ?_) (fun c3 => ?_)
    · have c3 : (ap).toInt = (-1 : Int) := hq_eqi.mp c3
      refine lv_aload hx hb dX0_fits_38 (lv_at hl 0 rfl) ?_
      refine hp_calli (hp_runV (As := []) (rest := []) hx hb hml hown hts (x_ofVerb l D cs B G V n hP (la) (ak) (ao) (at9) (ap) (ah) (aht) (apa) (ala)  hc1  ) hZ hc1 cv_X0_54 rfl rfl ⟨Nat.le_of_ble_eq_true rfl, Nat.le_of_ble_eq_true rfl⟩ rfl hl.1 rfl (Nat.le_of_ble_eq_true rfl) dX0_fits_40 ⟨(Nat.le_of_ble_eq_true rfl), (Nat.le_of_ble_eq_true rfl)⟩) hZ (fun r7 V4 n5 _ _ hw6 hZ => ?_)
      obtain ⟨rfl, rfl, hp10⟩ := hw6
      have b11 := hq_rng r7
      refine lv_if_eq (tgt := 63) hx hb dX0_fits_43 (by decide) (fun c12 => ?_) (fun c12 => ?_)
      · have c12 : (r7).toInt = (0 : Int) := hq_eqi.mp c12
        refine lv_aload hx hb dX0_fits_63 (lv_at hl 0 rfl) ?_
        refine hp_get (v := .int (ao)) hx hb hts hown hZ hc1 fl_X0_58 rfl dX0_fits_65 ?_
        refine lv_iconst (v := -1) hx hb dX0_fits_68 (by decide) ?_
        refine lv_icmp_eq (tgt := 86) hx hb dX0_fits_69 (by decide) (fun c13 => ?_) (fun c13 => ?_)
        · have c13 : (ao).toInt = (-1 : Int) := hq_eqi.mp c13
          refine lv_iconst (v := 1) hx hb dX0_fits_86 (by decide) ?_
          refine lv_goto (tgt := 91) hx hb dX0_fits_87 (by decide) ?_
          have hl14 : (1 : Int32).toInt = 1 := by decide
          exact hp_zret hx hb hr rfl hlocks hZ ⟨rfl, rfl, (by omega)⟩ dX0_fits_91
        · have c13 : ¬ (ao).toInt = (-1 : Int) := fun h9 => c13 (hq_eqi.mpr h9)
          refine lv_aload hx hb dX0_fits_72 (lv_at hl 0 rfl) ?_
          refine hp_get (v := .int (ao)) hx hb hts hown hZ hc1 fl_X0_58 rfl dX0_fits_74 ?_
          refine lv_aload_n hx hb dX0_fits_77 rfl (lv_at hl 1 rfl) ?_
          refine hp_get (v := .ref (qt + 75)) hx hb hts hown hZ hc0 fl_X0_23 rfl dX0_fits_78 ?_
          refine lv_iload_n hx hb dX0_fits_81 rfl (lv_at hl 3 rfl) ?_
          refine hp_iald hx hb hZ hc3 (hq_in (by omega) (by omega)) dX0_fits_82 ?_
          refine lv_topi (fun y15 ey16 => ?_)
          have b17 := hq_rng y15
          have b18 : (y15).toInt = c9 := by rw [ey16]; exact hc9
          refine lv_icmp_ne (tgt := 90) hx hb dX0_fits_83 (by decide) (fun c19 => ?_) (fun c19 => ?_)
          · have c19 : ¬ (ao).toInt = (y15).toInt := fun h9 => c19 (hq_eqi.mpr h9)
            refine lv_iconst (v := 0) hx hb dX0_fits_90 (by decide) ?_
            have hl20 : (0 : Int32).toInt = 0 := by decide
            exact hp_zret hx hb hr rfl hlocks hZ ⟨rfl, rfl, (by omega)⟩ dX0_fits_91
          · have c19 : (ao).toInt = (y15).toInt := hq_eqi.mp c19
            refine lv_iconst (v := 1) hx hb dX0_fits_86 (by decide) ?_
            refine lv_goto (tgt := 91) hx hb dX0_fits_87 (by decide) ?_
            have hl21 : (1 : Int32).toInt = 1 := by decide
            exact hp_zret hx hb hr rfl hlocks hZ ⟨rfl, rfl, (by omega)⟩ dX0_fits_91
      · have c12 : ¬ (r7).toInt = (0 : Int) := fun h9 => c12 (hq_eqi.mpr h9)
        refine lv_aload hx hb dX0_fits_46 (lv_at hl 0 rfl) ?_
        refine hp_get (v := .int (ao)) hx hb hts hown hZ hc1 fl_X0_58 rfl dX0_fits_48 ?_
        refine lv_iload_n hx hb dX0_fits_51 rfl (lv_at hl 3 rfl) ?_
        refine lv_icmp_ne (tgt := 59) hx hb dX0_fits_52 (by decide) (fun c22 => ?_) (fun c22 => ?_)
        · have c22 : ¬ (ao).toInt = (v).toInt := fun h9 => c22 (hq_eqi.mpr h9)
          refine lv_iconst (v := 0) hx hb dX0_fits_59 (by decide) ?_
          refine lv_goto (tgt := 91) hx hb dX0_fits_60 (by decide) ?_
          have hl23 : (0 : Int32).toInt = 0 := by decide
          exact hp_zret hx hb hr rfl hlocks hZ ⟨rfl, rfl, (by omega)⟩ dX0_fits_91
        · have c22 : (ao).toInt = (v).toInt := hq_eqi.mp c22
          refine lv_iconst (v := 1) hx hb dX0_fits_55 (by decide) ?_
          refine lv_goto (tgt := 91) hx hb dX0_fits_56 (by decide) ?_
          have hl24 : (1 : Int32).toInt = 1 := by decide
          exact hp_zret hx hb hr rfl hlocks hZ ⟨rfl, rfl, (by omega)⟩ dX0_fits_91
    · have c3 : ¬ (ap).toInt = (-1 : Int) := fun h9 => c3 (hq_eqi.mpr h9)
      refine lv_aload hx hb dX0_fits_26 (lv_at hl 0 rfl) ?_
      refine hp_get (v := .int (ap)) hx hb hts hown hZ hc1 fl_X0_51 rfl dX0_fits_28 ?_
      refine lv_iload hx hb dX0_fits_31 (lv_at hl 5 rfl) ?_
      refine lv_icmp_eq (tgt := 38) hx hb dX0_fits_33 (by decide) (fun c25 => ?_) (fun c25 => ?_)
      · have c25 : (ap).toInt = (pe).toInt := hq_eqi.mp c25
        refine lv_aload hx hb dX0_fits_38 (lv_at hl 0 rfl) ?_
        refine hp_calli (hp_runV (As := []) (rest := []) hx hb hml hown hts (x_ofVerb l D cs B G V n hP (la) (ak) (ao) (at9) (ap) (ah) (aht) (apa) (ala)  hc1  ) hZ hc1 cv_X0_54 rfl rfl ⟨Nat.le_of_ble_eq_true rfl, Nat.le_of_ble_eq_true rfl⟩ rfl hl.1 rfl (Nat.le_of_ble_eq_true rfl) dX0_fits_40 ⟨(Nat.le_of_ble_eq_true rfl), (Nat.le_of_ble_eq_true rfl)⟩) hZ (fun r29 V26 n27 _ _ hw28 hZ => ?_)
        obtain ⟨rfl, rfl, hp32⟩ := hw28
        have b33 := hq_rng r29
        refine lv_if_eq (tgt := 63) hx hb dX0_fits_43 (by decide) (fun c34 => ?_) (fun c34 => ?_)
        · have c34 : (r29).toInt = (0 : Int) := hq_eqi.mp c34
          refine lv_aload hx hb dX0_fits_63 (lv_at hl 0 rfl) ?_
          refine hp_get (v := .int (ao)) hx hb hts hown hZ hc1 fl_X0_58 rfl dX0_fits_65 ?_
          refine lv_iconst (v := -1) hx hb dX0_fits_68 (by decide) ?_
          refine lv_icmp_eq (tgt := 86) hx hb dX0_fits_69 (by decide) (fun c35 => ?_) (fun c35 => ?_)
          · have c35 : (ao).toInt = (-1 : Int) := hq_eqi.mp c35
            refine lv_iconst (v := 1) hx hb dX0_fits_86 (by decide) ?_
            refine lv_goto (tgt := 91) hx hb dX0_fits_87 (by decide) ?_
            have hl36 : (1 : Int32).toInt = 1 := by decide
            exact hp_zret hx hb hr rfl hlocks hZ ⟨rfl, rfl, (by omega)⟩ dX0_fits_91
          · have c35 : ¬ (ao).toInt = (-1 : Int) := fun h9 => c35 (hq_eqi.mpr h9)
            refine lv_aload hx hb dX0_fits_72 (lv_at hl 0 rfl) ?_
            refine hp_get (v := .int (ao)) hx hb hts hown hZ hc1 fl_X0_58 rfl dX0_fits_74 ?_
            refine lv_aload_n hx hb dX0_fits_77 rfl (lv_at hl 1 rfl) ?_
            refine hp_get (v := .ref (qt + 75)) hx hb hts hown hZ hc0 fl_X0_23 rfl dX0_fits_78 ?_
            refine lv_iload_n hx hb dX0_fits_81 rfl (lv_at hl 3 rfl) ?_
            refine hp_iald hx hb hZ hc3 (hq_in (by omega) (by omega)) dX0_fits_82 ?_
            refine lv_topi (fun y37 ey38 => ?_)
            have b39 := hq_rng y37
            have b40 : (y37).toInt = c9 := by rw [ey38]; exact hc9
            refine lv_icmp_ne (tgt := 90) hx hb dX0_fits_83 (by decide) (fun c41 => ?_) (fun c41 => ?_)
            · have c41 : ¬ (ao).toInt = (y37).toInt := fun h9 => c41 (hq_eqi.mpr h9)
              refine lv_iconst (v := 0) hx hb dX0_fits_90 (by decide) ?_
              have hl42 : (0 : Int32).toInt = 0 := by decide
              exact hp_zret hx hb hr rfl hlocks hZ ⟨rfl, rfl, (by omega)⟩ dX0_fits_91
            · have c41 : (ao).toInt = (y37).toInt := hq_eqi.mp c41
              refine lv_iconst (v := 1) hx hb dX0_fits_86 (by decide) ?_
              refine lv_goto (tgt := 91) hx hb dX0_fits_87 (by decide) ?_
              have hl43 : (1 : Int32).toInt = 1 := by decide
              exact hp_zret hx hb hr rfl hlocks hZ ⟨rfl, rfl, (by omega)⟩ dX0_fits_91
        · have c34 : ¬ (r29).toInt = (0 : Int) := fun h9 => c34 (hq_eqi.mpr h9)
          refine lv_aload hx hb dX0_fits_46 (lv_at hl 0 rfl) ?_
          refine hp_get (v := .int (ao)) hx hb hts hown hZ hc1 fl_X0_58 rfl dX0_fits_48 ?_
          refine lv_iload_n hx hb dX0_fits_51 rfl (lv_at hl 3 rfl) ?_
          refine lv_icmp_ne (tgt := 59) hx hb dX0_fits_52 (by decide) (fun c44 => ?_) (fun c44 => ?_)
          · have c44 : ¬ (ao).toInt = (v).toInt := fun h9 => c44 (hq_eqi.mpr h9)
            refine lv_iconst (v := 0) hx hb dX0_fits_59 (by decide) ?_
            refine lv_goto (tgt := 91) hx hb dX0_fits_60 (by decide) ?_
            have hl45 : (0 : Int32).toInt = 0 := by decide
            exact hp_zret hx hb hr rfl hlocks hZ ⟨rfl, rfl, (by omega)⟩ dX0_fits_91
          · have c44 : (ao).toInt = (v).toInt := hq_eqi.mp c44
            refine lv_iconst (v := 1) hx hb dX0_fits_55 (by decide) ?_
            refine lv_goto (tgt := 91) hx hb dX0_fits_56 (by decide) ?_
            have hl46 : (1 : Int32).toInt = 1 := by decide
            exact hp_zret hx hb hr rfl hlocks hZ ⟨rfl, rfl, (by omega)⟩ dX0_fits_91
      · have c25 : ¬ (ap).toInt = (pe).toInt := fun h9 => c25 (hq_eqi.mpr h9)
        refine lv_iconst (v := 0) hx hb dX0_fits_36 (by decide) ?_
        have hl47 : (0 : Int32).toInt = 0 := by decide
        exact hp_zret hx hb hr rfl hlocks hZ ⟨rfl, rfl, (by omega)⟩ dX0_fits_37

set_option maxHeartbeats 4000000 in
set_option maxRecDepth 100000 in
theorem x_nf (l : Launch) (D : va_G) (cs : Nat → ClassId) (B : Nat) (G : hq_G) (V : hp_V) (n : Nat) (hI : hq_I cs G V) (qt : Nat) (c9 : Int) (w : sp_W) (bk : sp_B) (k : Int32) (k2 : Int32) (v : Int32) (te : Int32) (pe : Int32) (bc : Int32) (bv : Int32) (bl : Int32) (vf : Nat → Int32) (hc0 : V (qt) = some (.inr (0, [.ref (qt + 1), .int (bc), .ref (qt + 14), .ref (qt + 75), .int (bv), .ref (qt + 76), .int (bl)]))) (hc1 : V (qt + 75) = some (.inl (cs 1, 30, .inl (vf)))) (hp0 : hx_LL cs V (qt + 77) w bk.2.2.2) (hp1 : hx_BS cs V qt) (hbl : bl.toInt = (bk.2.2.2.length : Int)) (hk2 : 0 ≤ k2.toInt ∧ k2.toInt ≤ bl.toInt) (hv : 0 ≤ v.toInt ∧ v.toInt < 30) (hc9 : (vf v.toNatClampNeg).toInt = c9) : hp_M l yX0_nextFitting cX0_nextFitting 7 (some .int) ({ frames := 3, cells := 0, slots := 0, locals := 66 }) D cs B V n [.ref (qt), .int (k), .int (k2), .int (v), .int (te), .int (pe)] (hp_QI D cs B (fun r V' n' => n = n' ∧ V = V' ∧ (r.toInt = sp_nf k.toInt v.toInt c9 te.toInt pe.toInt (bk.2.2.2.drop k2.toNatClampNeg) k2.toInt))) 0 0 := by
  refine hp_walk (R0 := RX0) (by decide) rfl ?_ (Nat.le_of_ble_eq_true rfl)
  intro p e s m below meth c ls hx hb hr hts hown hlocks hin hml hZ hl
  have hP : hq_I cs G V := hI
  have hl : lv_has ls 7 [(0, .ref (qt)), (1, .int (k)), (2, .int (k2)), (3, .int (v)), (4, .int (te)), (5, .int (pe))] := hl
  have hb_k := hq_rng k
  have hb_k2 := hq_rng k2
  have hb_v := hq_rng v
  have hb_te := hq_rng te
  have hb_pe := hq_rng pe
  have hb_bc := hq_rng bc
  have hb_bv := hq_rng bv
  have hb_bl := hq_rng bl
  have hLL := hp0
  have hBS := hp1
  obtain ⟨⟨g1, hg1, hr1⟩, ⟨g2, hg2, hr2⟩, ⟨g3, hg3, hr3⟩⟩ := id hBS
  have hll9 := hLL.1
  refine lv_iload_n hx hb dX0_nextFitting_0 rfl (lv_at hl 2 rfl) ?_
  refine lv_istore (lv' := [(6, .int (k2)), (0, .ref (qt)), (1, .int (k)), (2, .int (k2)), (3, .int (v)), (4, .int (te)), (5, .int (pe))]) hx hb dX0_nextFitting_1 hl (by decide) rfl (fun ls hl => ?_)
  suffices lp3 : ∀ (k9 : Nat) (H9 : Heap) (locs9 : List Loc) (ls : Array Slot) (i : Int32), (200 - i.toInt).toNat = k9 → hp_Z D cs B s V H9 n locs9 → hq_I cs G V → 0 ≤ i.toInt → i.toInt ≤ bk.2.2.2.length → (sp_nf k.toInt v.toInt c9 te.toInt pe.toInt (bk.2.2.2.drop i.toNatClampNeg) i.toInt = sp_nf k.toInt v.toInt c9 te.toInt pe.toInt (bk.2.2.2.drop k2.toNatClampNeg) k2.toInt) → lv_has ls 7 [(6, .int (i)), (0, .ref (qt)), (1, .int (k)), (2, .int (k2)), (3, .int (v)), (4, .int (te)), (5, .int (pe))] → W p l e ({ frames := 3, cells := 0, slots := 0, locals := 66 }) s m ([.ref (qt), .int (k), .int (k2), .int (v), .int (te), .int (pe)] : List Value).toArray below meth c H9 locs9 0 0 (MQ below (hp_QI D cs B (fun r V' n' => n = n' ∧ V = V' ∧ (r.toInt = sp_nf k.toInt v.toInt c9 te.toInt pe.toInt (bk.2.2.2.drop k2.toNatClampNeg) k2.toInt))) ([.ref (qt), .int (k), .int (k2), .int (v), .int (te), .int (pe)] : List Value).toArray s 0 0 (hp_F B)) (F0 m 3 ls []) from lp3 _ _ _ ls (k2) rfl hZ hP (by omega) (by omega) (rfl) (lv_sub hl [0, 1, 2, 3, 4, 5, 6] rfl)
  intro k9
  induction k9 using Nat.strongRecOn with
  | _ k9 ih3 =>
    intro H9 locs9 ls i   hk3 hZ hP    hv1 hv2 hnf hl
    have hb_i := hq_rng i
    refine lv_iload hx hb dX0_nextFitting_3 (lv_at hl 0 rfl) ?_
    refine lv_aload_n hx hb dX0_nextFitting_5 rfl (lv_at hl 1 rfl) ?_
    refine hp_get (v := .int (bl)) hx hb hts hown hZ hc0 fl_X0_41 rfl dX0_nextFitting_6 ?_
    refine lv_icmp_ge (tgt := 49) hx hb dX0_nextFitting_9 (by decide) (fun c3 => ?_) (fun c3 => ?_)
    · have c3 : (bl).toInt ≤ (i).toInt := hq_lei.mp c3
      refine lv_iconst (v := -1) hx hb dX0_nextFitting_49 (by decide) ?_
      have hl4 : (-1 : Int32).toInt = -1 := by decide
      exact hp_iret hx hb hr hlocks hZ ⟨rfl, rfl, by rw [← hnf, sp_nf_o (by have h8 := (hq_nn (z := i) (by omega)).1; omega)]; omega⟩ dX0_nextFitting_50
    · have c3 : ¬ (bl).toInt ≤ (i).toInt := fun h9 => c3 (hq_lei.mpr h9)
      refine lv_aload_n hx hb dX0_nextFitting_12 rfl (lv_at hl 1 rfl) ?_
      refine hp_get (v := .ref (qt + 76)) hx hb hts hown hZ hc0 fl_X0_29 rfl dX0_nextFitting_13 ?_
      refine lv_iload hx hb dX0_nextFitting_16 (lv_at hl 0 rfl) ?_
      obtain ⟨la9, hla⟩ : ∃ ta, ta = qt + 77 + 5 * (i).toNatClampNeg := ⟨_, rfl⟩
      have hii : (i.toNatClampNeg : Int) = i.toInt := (hq_nn (by omega)).1.symm
      have hla1 : g3 (i).toNatClampNeg = some la9 := by rw [hla]; exact hr3 _ (by omega)
      obtain ⟨x9, hx9⟩ : ∃ t, bk.2.2.2[i.toNatClampNeg]? = some t := ⟨_, List.getElem?_eq_getElem (by omega)⟩
      obtain ⟨ak, ao, at9, ap, ah, aht, apa, ala, ha1, ha2, ha3, ha4, ha5, -⟩ := (show hx_LN cs V la9 w x9 by rw [hla]; exact hLL.2 _ _ hx9)
      refine hp_aald (v := .ref (la9)) hx hb hZ 6 hg3 rfl (hq_in (by omega) (by omega)) (by rw [hla1]; rfl) dX0_nextFitting_18 ?_
      refine hp_get (v := .int (ak)) hx hb hts hown hZ ha1 fl_X0_61 rfl dX0_nextFitting_19 ?_
      refine lv_iload_n hx hb dX0_nextFitting_22 rfl (lv_at hl 2 rfl) ?_
      refine lv_icmp_ne (tgt := 43) hx hb dX0_nextFitting_23 (by decide) (fun c5 => ?_) (fun c5 => ?_)
      · have c5 : ¬ (ak).toInt = (k).toInt := fun h9 => c5 (hq_eqi.mpr h9)
        obtain ⟨y6, ey7⟩ : ∃ y : Int32, y = i + (1) := ⟨_, rfl⟩
        obtain ⟨k8, hk9, b10, b11⟩ := hq_add (i) (1)
        rw [← ey7] at hk9 b10 b11
        have hk9 : (y6).toInt = (i).toInt + (1) + k8 * 4294967296 := hk9
        obtain rfl : k8 = 0 := by omega
        refine lv_iinc (v := y6) (lv' := [(6, .int (y6)), (0, .ref (qt)), (1, .int (k)), (2, .int (k2)), (3, .int (v)), (4, .int (te)), (5, .int (pe))]) hx hb dX0_nextFitting_43 hl (k := 0) rfl (by rw [ey7]; rfl) (by decide) rfl (fun ls hl => ?_)
        refine lv_goto (tgt := 3) hx hb dX0_nextFitting_46 (by decide) ?_
        exact ih3 _ (by omega) _ _ ls (y6) rfl hZ hP (by omega) (by omega) (by rw [← hnf, sp_nf_n hx9 (fun g9 => by unfold sp_ft at g9; omega), show (y6).toNatClampNeg = i.toNatClampNeg + 1 from (by have h8 := (hq_nn (z := y6) (by omega)).1; omega), show (y6).toInt = i.toInt + 1 by omega]) (lv_sub hl [0, 1, 2, 3, 4, 5, 6] rfl)
      · have c5 : (ak).toInt = (k).toInt := hq_eqi.mp c5
        refine lv_aload_n hx hb dX0_nextFitting_26 rfl (lv_at hl 1 rfl) ?_
        refine lv_iload hx hb dX0_nextFitting_27 (lv_at hl 0 rfl) ?_
        refine lv_iload_n hx hb dX0_nextFitting_29 rfl (lv_at hl 4 rfl) ?_
        refine lv_iload hx hb dX0_nextFitting_30 (lv_at hl 5 rfl) ?_
        refine lv_iload hx hb dX0_nextFitting_32 (lv_at hl 6 rfl) ?_
        refine hp_calli (hp_runV (As := [.int (i), .int (v), .int (te), .int (pe)]) (rest := []) hx hb hml hown hts (x_fitsG l D cs B G V n hP (qt) (la9) (c9) (i) (v) (te) (pe) (bc) (bv) (bl) (ak) (ao) (at9) (ap) (ah) (aht) (apa) (ala) (g3) (vf)  hc0 ha1 hg3 hc1  (by omega) (by omega) hla1 hc9) hZ hc0 cv_X0_64 rfl rfl ⟨Nat.le_of_ble_eq_true rfl, Nat.le_of_ble_eq_true rfl⟩ rfl hl.1 rfl (Nat.le_of_ble_eq_true rfl) dX0_nextFitting_34 ⟨(Nat.le_of_ble_eq_true rfl), (Nat.le_of_ble_eq_true rfl)⟩) hZ (fun r15 V12 n13 _ _ hw14 hZ => ?_)
        obtain ⟨rfl, rfl, hp18⟩ := hw14
        have b19 := hq_rng r15
        refine lv_if_eq (tgt := 43) hx hb dX0_nextFitting_37 (by decide) (fun c20 => ?_) (fun c20 => ?_)
        · have c20 : (r15).toInt = (0 : Int) := hq_eqi.mp c20
          obtain ⟨y21, ey22⟩ : ∃ y : Int32, y = i + (1) := ⟨_, rfl⟩
          obtain ⟨k23, hk24, b25, b26⟩ := hq_add (i) (1)
          rw [← ey22] at hk24 b25 b26
          have hk24 : (y21).toInt = (i).toInt + (1) + k23 * 4294967296 := hk24
          obtain rfl : k23 = 0 := by omega
          refine lv_iinc (v := y21) (lv' := [(6, .int (y21)), (0, .ref (qt)), (1, .int (k)), (2, .int (k2)), (3, .int (v)), (4, .int (te)), (5, .int (pe))]) hx hb dX0_nextFitting_43 hl (k := 0) rfl (by rw [ey22]; rfl) (by decide) rfl (fun ls hl => ?_)
          refine lv_goto (tgt := 3) hx hb dX0_nextFitting_46 (by decide) ?_
          exact ih3 _ (by omega) _ _ ls (y21) rfl hZ hP (by omega) (by omega) (by rw [← hnf, sp_nf_n hx9 (fun g9 => by unfold sp_ft at g9; omega), show (y21).toNatClampNeg = i.toNatClampNeg + 1 from (by have h8 := (hq_nn (z := y21) (by omega)).1; omega), show (y21).toInt = i.toInt + 1 by omega]) (lv_sub hl [0, 1, 2, 3, 4, 5, 6] rfl)
        · have c20 : ¬ (r15).toInt = (0 : Int) := fun h9 => c20 (hq_eqi.mpr h9)
          refine lv_iload hx hb dX0_nextFitting_40 (lv_at hl 0 rfl) ?_
          exact hp_iret hx hb hr hlocks hZ ⟨rfl, rfl, by rw [← hnf, sp_nf_y hx9 (by unfold sp_ft; omega)]⟩ dX0_nextFitting_42

set_option maxHeartbeats 4000000 in
set_option maxRecDepth 100000 in
theorem y_fitsG (l : Launch) (D : va_G) (cs : Nat → ClassId) (B : Nat) (G : hq_G) (V : hp_V) (n : Nat) (hI : hq_I cs G V) (q : Nat) (mo : Nat) (rh : hm_Rh) (m_tp : Int32) (m_sz : Int32) (m_fr : Int32) (m_bh : Int32) (m_hd : Int32) (m_ft : Int32) (m_fa : Int32) (m_le : Int32) (m_fo : Int32) (m_as : Int32) (m_fd : Int32) (m_bc : Int32) (m_bg : Int32) (m_bs : Int32) (m_be : Int32) (m_b0 : Int32) (m_b1 : Int32) (m_cm : Int32) (m_hc : Int32) (i : Int32) (v : Int32) (te : Int32) (pe : Int32) (hc0 : V (mo) = some (.inr (13, hm_o q (m_tp) (m_sz) (m_fr) (m_bh) (m_hd) (m_ft) (m_fa) (m_le) (m_fo) (m_as) (m_fd) (m_bc) (m_bg) (m_bs) (m_be) (m_b0) (m_b1) (m_cm) (m_hc)))) (hp0 : hm_AR cs V q rh) (hR : hq_RT G q) (hmo : G mo = some (24, 0, 0, 0)) (hi : 0 ≤ i.toInt ∧ i.toInt < 60) (hv : 0 ≤ v.toInt ∧ v.toInt < 30) : hp_M l yX13_fits cX13_fits 5 (some .boolean) ({ frames := 1, cells := 0, slots := 0, locals := 21 }) D cs B V n [.ref (mo), .int (i), .int (v), .int (te), .int (pe)] (hp_QI D cs B (fun r V' n' => n = n' ∧ V = V' ∧ ((r.toInt = 1 ∧ (¬ (rh 10 (i).toNatClampNeg).toInt = 2 ∧ (rh 12 (i).toNatClampNeg).toInt = te.toInt ∧ ((rh 13 (i).toNatClampNeg).toInt = -1 ∨ (rh 13 (i).toNatClampNeg).toInt = pe.toInt) ∧ ((rh 11 (i).toNatClampNeg).toInt = -1 ∨ (((rh 10 (i).toNatClampNeg).toInt = 4 ∨ (rh 10 (i).toNatClampNeg).toInt = 5) ∧ (rh 11 (i).toNatClampNeg).toInt = v.toInt) ∨ (¬ ((rh 10 (i).toNatClampNeg).toInt = 4 ∨ (rh 10 (i).toNatClampNeg).toInt = 5) ∧ (rh 11 (i).toNatClampNeg).toInt = (rh 9 (v).toNatClampNeg).toInt)))) ∨ (r.toInt = 0 ∧ ¬ (¬ (rh 10 (i).toNatClampNeg).toInt = 2 ∧ (rh 12 (i).toNatClampNeg).toInt = te.toInt ∧ ((rh 13 (i).toNatClampNeg).toInt = -1 ∨ (rh 13 (i).toNatClampNeg).toInt = pe.toInt) ∧ ((rh 11 (i).toNatClampNeg).toInt = -1 ∨ (((rh 10 (i).toNatClampNeg).toInt = 4 ∨ (rh 10 (i).toNatClampNeg).toInt = 5) ∧ (rh 11 (i).toNatClampNeg).toInt = v.toInt) ∨ (¬ ((rh 10 (i).toNatClampNeg).toInt = 4 ∨ (rh 10 (i).toNatClampNeg).toInt = 5) ∧ (rh 11 (i).toNatClampNeg).toInt = (rh 9 (v).toNatClampNeg).toInt))))))) 0 0 := by
  refine hp_walk (R0 := RX13) (by decide) rfl ?_ (Nat.le_of_ble_eq_true rfl)
  intro p e s m below meth c ls hx hb hr hts hown hlocks hin hml hZ hl
  have hP : hq_I cs G V := hI
  have hl : lv_has ls 5 [(0, .ref (mo)), (1, .int (i)), (2, .int (v)), (3, .int (te)), (4, .int (pe))] := hl
  have hb_m_tp := hq_rng m_tp
  have hb_m_sz := hq_rng m_sz
  have hb_m_fr := hq_rng m_fr
  have hb_m_bh := hq_rng m_bh
  have hb_m_hd := hq_rng m_hd
  have hb_m_ft := hq_rng m_ft
  have hb_m_fa := hq_rng m_fa
  have hb_m_le := hq_rng m_le
  have hb_m_fo := hq_rng m_fo
  have hb_m_as := hq_rng m_as
  have hb_m_fd := hq_rng m_fd
  have hb_m_bc := hq_rng m_bc
  have hb_m_bg := hq_rng m_bg
  have hb_m_bs := hq_rng m_bs
  have hb_m_be := hq_rng m_be
  have hb_m_b0 := hq_rng m_b0
  have hb_m_b1 := hq_rng m_b1
  have hb_m_cm := hq_rng m_cm
  have hb_m_hc := hq_rng m_hc
  have hb_i := hq_rng i
  have hb_v := hq_rng v
  have hb_te := hq_rng te
  have hb_pe := hq_rng pe
  refine lv_aload_n hx hb dX13_fits_0 rfl (lv_at hl 0 rfl) ?_
  refine hp_get (v := .ref (q + 10)) hx hb hts hown hZ hc0 fl_X13_29 rfl dX13_fits_1 ?_
  refine lv_iload_n hx hb dX13_fits_4 rfl (lv_at hl 1 rfl) ?_
  obtain ⟨rf1, hrf2⟩ : ∃ f : Nat → Int32, f = rh 10 := ⟨_, rfl⟩
  have ea3 : V (q + 10) = some (.inl (cs 1, 120, .inl (rf1))) := by rw [hrf2]; exact hp0 10 (by decide)
  have hra4 := hq_rg hP (hr_10 hR) ea3
  refine hp_iald hx hb hZ ea3 (hq_in (by omega) (by omega)) dX13_fits_5 ?_
  refine lv_topi (fun y5 ey6 => ?_)
  have b7 := hq_rng y5
  have b8 : (y5).toInt = (rh 10 (i).toNatClampNeg).toInt := by rw [ey6, hrf2]
  refine lv_iconst (v := 2) hx hb dX13_fits_6 (by decide) ?_
  refine lv_icmp_eq (tgt := 41) hx hb dX13_fits_7 (by decide) (fun c9 => ?_) (fun c9 => ?_)
  · have c9 : (y5).toInt = (2 : Int) := hq_eqi.mp c9
    refine lv_iconst (v := 0) hx hb dX13_fits_41 (by decide) ?_
    have hl10 : (0 : Int32).toInt = 0 := by decide
    exact hp_zret hx hb hr rfl hlocks hZ ⟨rfl, rfl, (by omega)⟩ dX13_fits_42
  · have c9 : ¬ (y5).toInt = (2 : Int) := fun h9 => c9 (hq_eqi.mpr h9)
    refine lv_aload_n hx hb dX13_fits_10 rfl (lv_at hl 0 rfl) ?_
    refine hp_get (v := .ref (q + 12)) hx hb hts hown hZ hc0 fl_X13_35 rfl dX13_fits_11 ?_
    refine lv_iload_n hx hb dX13_fits_14 rfl (lv_at hl 1 rfl) ?_
    obtain ⟨rf11, hrf12⟩ : ∃ f : Nat → Int32, f = rh 12 := ⟨_, rfl⟩
    have ea13 : V (q + 12) = some (.inl (cs 1, 120, .inl (rf11))) := by rw [hrf12]; exact hp0 12 (by decide)
    have hra14 := hq_rg hP (hr_12 hR) ea13
    refine hp_iald hx hb hZ ea13 (hq_in (by omega) (by omega)) dX13_fits_15 ?_
    refine lv_topi (fun y15 ey16 => ?_)
    have b17 := hq_rng y15
    have b18 : (y15).toInt = (rh 12 (i).toNatClampNeg).toInt := by rw [ey16, hrf12]
    refine lv_iload_n hx hb dX13_fits_16 rfl (lv_at hl 3 rfl) ?_
    refine lv_icmp_ne (tgt := 41) hx hb dX13_fits_17 (by decide) (fun c19 => ?_) (fun c19 => ?_)
    · have c19 : ¬ (y15).toInt = (te).toInt := fun h9 => c19 (hq_eqi.mpr h9)
      refine lv_iconst (v := 0) hx hb dX13_fits_41 (by decide) ?_
      have hl20 : (0 : Int32).toInt = 0 := by decide
      exact hp_zret hx hb hr rfl hlocks hZ ⟨rfl, rfl, (by omega)⟩ dX13_fits_42
    · have c19 : (y15).toInt = (te).toInt := hq_eqi.mp c19
      refine lv_aload_n hx hb dX13_fits_20 rfl (lv_at hl 0 rfl) ?_
      refine hp_get (v := .ref (q + 13)) hx hb hts hown hZ hc0 fl_X13_38 rfl dX13_fits_21 ?_
      refine lv_iload_n hx hb dX13_fits_24 rfl (lv_at hl 1 rfl) ?_
      obtain ⟨rf21, hrf22⟩ : ∃ f : Nat → Int32, f = rh 13 := ⟨_, rfl⟩
      have ea23 : V (q + 13) = some (.inl (cs 1, 120, .inl (rf21))) := by rw [hrf22]; exact hp0 13 (by decide)
      have hra24 := hq_rg hP (hr_13 hR) ea23
      refine hp_iald hx hb hZ ea23 (hq_in (by omega) (by omega)) dX13_fits_25 ?_
      refine lv_topi (fun y25 ey26 => ?_)
      have b27 := hq_rng y25
      have b28 : (y25).toInt = (rh 13 (i).toNatClampNeg).toInt := by rw [ey26, hrf22]
      refine lv_iconst (v := -1) hx hb dX13_fits_26 (by decide) ?_
      refine lv_icmp_eq (tgt := 43) hx hb dX13_fits_27 (by decide) (fun c29 => ?_) (fun c29 => ?_)
      · have c29 : (y25).toInt = (-1 : Int) := hq_eqi.mp c29
        refine lv_aload_n hx hb dX13_fits_43 rfl (lv_at hl 0 rfl) ?_
        refine hp_get (v := .ref (q + 11)) hx hb hts hown hZ hc0 fl_X13_32 rfl dX13_fits_44 ?_
        refine lv_iload_n hx hb dX13_fits_47 rfl (lv_at hl 1 rfl) ?_
        obtain ⟨rf30, hrf31⟩ : ∃ f : Nat → Int32, f = rh 11 := ⟨_, rfl⟩
        have ea32 : V (q + 11) = some (.inl (cs 1, 120, .inl (rf30))) := by rw [hrf31]; exact hp0 11 (by decide)
        have hra33 := hq_rg hP (hr_11 hR) ea32
        refine hp_iald hx hb hZ ea32 (hq_in (by omega) (by omega)) dX13_fits_48 ?_
        refine lv_topi (fun y34 ey35 => ?_)
        have b36 := hq_rng y34
        have b37 : (y34).toInt = (rh 11 (i).toNatClampNeg).toInt := by rw [ey35, hrf31]
        refine lv_iconst (v := -1) hx hb dX13_fits_49 (by decide) ?_
        refine lv_icmp_eq (tgt := 92) hx hb dX13_fits_50 (by decide) (fun c38 => ?_) (fun c38 => ?_)
        · have c38 : (y34).toInt = (-1 : Int) := hq_eqi.mp c38
          refine lv_iconst (v := 1) hx hb dX13_fits_92 (by decide) ?_
          refine lv_goto (tgt := 97) hx hb dX13_fits_93 (by decide) ?_
          have hl39 : (1 : Int32).toInt = 1 := by decide
          exact hp_zret hx hb hr rfl hlocks hZ ⟨rfl, rfl, (by omega)⟩ dX13_fits_97
        · have c38 : ¬ (y34).toInt = (-1 : Int) := fun h9 => c38 (hq_eqi.mpr h9)
          refine lv_aload_n hx hb dX13_fits_53 rfl (lv_at hl 0 rfl) ?_
          refine hp_get (v := .ref (q + 11)) hx hb hts hown hZ hc0 fl_X13_32 rfl dX13_fits_54 ?_
          refine lv_iload_n hx hb dX13_fits_57 rfl (lv_at hl 1 rfl) ?_
          refine hp_iald hx hb hZ ea32 (hq_in (by omega) (by omega)) dX13_fits_58 ?_
          refine lv_topi (fun y40 ey41 => ?_)
          have b42 := hq_rng y40
          have b43 : (y40).toInt = (rh 11 (i).toNatClampNeg).toInt := by rw [ey41, hrf31]
          refine lv_aload_n hx hb dX13_fits_59 rfl (lv_at hl 0 rfl) ?_
          refine hp_get (v := .ref (q + 10)) hx hb hts hown hZ hc0 fl_X13_29 rfl dX13_fits_60 ?_
          refine lv_iload_n hx hb dX13_fits_63 rfl (lv_at hl 1 rfl) ?_
          refine hp_iald hx hb hZ ea3 (hq_in (by omega) (by omega)) dX13_fits_64 ?_
          refine lv_topi (fun y44 ey45 => ?_)
          have b46 := hq_rng y44
          have b47 : (y44).toInt = (rh 10 (i).toNatClampNeg).toInt := by rw [ey45, hrf2]
          refine lv_iconst (v := 4) hx hb dX13_fits_65 (by decide) ?_
          refine lv_icmp_eq (tgt := 79) hx hb dX13_fits_66 (by decide) (fun c48 => ?_) (fun c48 => ?_)
          · have c48 : (y44).toInt = (4 : Int) := hq_eqi.mp c48
            refine lv_iload_n hx hb dX13_fits_79 rfl (lv_at hl 2 rfl) ?_
            refine lv_goto (tgt := 89) hx hb dX13_fits_80 (by decide) ?_
            refine lv_icmp_ne (tgt := 96) hx hb dX13_fits_89 (by decide) (fun c49 => ?_) (fun c49 => ?_)
            · have c49 : ¬ (y40).toInt = (v).toInt := fun h9 => c49 (hq_eqi.mpr h9)
              refine lv_iconst (v := 0) hx hb dX13_fits_96 (by decide) ?_
              have hl50 : (0 : Int32).toInt = 0 := by decide
              exact hp_zret hx hb hr rfl hlocks hZ ⟨rfl, rfl, (by omega)⟩ dX13_fits_97
            · have c49 : (y40).toInt = (v).toInt := hq_eqi.mp c49
              refine lv_iconst (v := 1) hx hb dX13_fits_92 (by decide) ?_
              refine lv_goto (tgt := 97) hx hb dX13_fits_93 (by decide) ?_
              have hl51 : (1 : Int32).toInt = 1 := by decide
              exact hp_zret hx hb hr rfl hlocks hZ ⟨rfl, rfl, (by omega)⟩ dX13_fits_97
          · have c48 : ¬ (y44).toInt = (4 : Int) := fun h9 => c48 (hq_eqi.mpr h9)
            refine lv_aload_n hx hb dX13_fits_69 rfl (lv_at hl 0 rfl) ?_
            refine hp_get (v := .ref (q + 10)) hx hb hts hown hZ hc0 fl_X13_29 rfl dX13_fits_70 ?_
            refine lv_iload_n hx hb dX13_fits_73 rfl (lv_at hl 1 rfl) ?_
            refine hp_iald hx hb hZ ea3 (hq_in (by omega) (by omega)) dX13_fits_74 ?_
            refine lv_topi (fun y52 ey53 => ?_)
            have b54 := hq_rng y52
            have b55 : (y52).toInt = (rh 10 (i).toNatClampNeg).toInt := by rw [ey53, hrf2]
            refine lv_iconst (v := 5) hx hb dX13_fits_75 (by decide) ?_
            refine lv_icmp_ne (tgt := 83) hx hb dX13_fits_76 (by decide) (fun c56 => ?_) (fun c56 => ?_)
            · have c56 : ¬ (y52).toInt = (5 : Int) := fun h9 => c56 (hq_eqi.mpr h9)
              refine lv_aload_n hx hb dX13_fits_83 rfl (lv_at hl 0 rfl) ?_
              refine hp_get (v := .ref (q + 9)) hx hb hts hown hZ hc0 fl_X13_16 rfl dX13_fits_84 ?_
              refine lv_iload_n hx hb dX13_fits_87 rfl (lv_at hl 2 rfl) ?_
              obtain ⟨rf57, hrf58⟩ : ∃ f : Nat → Int32, f = rh 9 := ⟨_, rfl⟩
              have ea59 : V (q + 9) = some (.inl (cs 1, 60, .inl (rf57))) := by rw [hrf58]; exact hp0 9 (by decide)
              have hra60 := hq_rg hP (hr_9 hR) ea59
              refine hp_iald hx hb hZ ea59 (hq_in (by omega) (by omega)) dX13_fits_88 ?_
              refine lv_topi (fun y61 ey62 => ?_)
              have b63 := hq_rng y61
              have b64 : (y61).toInt = (rh 9 (v).toNatClampNeg).toInt := by rw [ey62, hrf58]
              refine lv_icmp_ne (tgt := 96) hx hb dX13_fits_89 (by decide) (fun c65 => ?_) (fun c65 => ?_)
              · have c65 : ¬ (y40).toInt = (y61).toInt := fun h9 => c65 (hq_eqi.mpr h9)
                refine lv_iconst (v := 0) hx hb dX13_fits_96 (by decide) ?_
                have hl66 : (0 : Int32).toInt = 0 := by decide
                exact hp_zret hx hb hr rfl hlocks hZ ⟨rfl, rfl, (by omega)⟩ dX13_fits_97
              · have c65 : (y40).toInt = (y61).toInt := hq_eqi.mp c65
                refine lv_iconst (v := 1) hx hb dX13_fits_92 (by decide) ?_
                refine lv_goto (tgt := 97) hx hb dX13_fits_93 (by decide) ?_
                have hl67 : (1 : Int32).toInt = 1 := by decide
                exact hp_zret hx hb hr rfl hlocks hZ ⟨rfl, rfl, (by omega)⟩ dX13_fits_97
            · have c56 : (y52).toInt = (5 : Int) := hq_eqi.mp c56
              refine lv_iload_n hx hb dX13_fits_79 rfl (lv_at hl 2 rfl) ?_
              refine lv_goto (tgt := 89) hx hb dX13_fits_80 (by decide) ?_
              refine lv_icmp_ne (tgt := 96) hx hb dX13_fits_89 (by decide) (fun c68 => ?_) (fun c68 => ?_)
              · have c68 : ¬ (y40).toInt = (v).toInt := fun h9 => c68 (hq_eqi.mpr h9)
                refine lv_iconst (v := 0) hx hb dX13_fits_96 (by decide) ?_
                have hl69 : (0 : Int32).toInt = 0 := by decide
                exact hp_zret hx hb hr rfl hlocks hZ ⟨rfl, rfl, (by omega)⟩ dX13_fits_97
              · have c68 : (y40).toInt = (v).toInt := hq_eqi.mp c68
                refine lv_iconst (v := 1) hx hb dX13_fits_92 (by decide) ?_
                refine lv_goto (tgt := 97) hx hb dX13_fits_93 (by decide) ?_
                have hl70 : (1 : Int32).toInt = 1 := by decide
                exact hp_zret hx hb hr rfl hlocks hZ ⟨rfl, rfl, (by omega)⟩ dX13_fits_97
      · have c29 : ¬ (y25).toInt = (-1 : Int) := fun h9 => c29 (hq_eqi.mpr h9)
        refine lv_aload_n hx hb dX13_fits_30 rfl (lv_at hl 0 rfl) ?_
        refine hp_get (v := .ref (q + 13)) hx hb hts hown hZ hc0 fl_X13_38 rfl dX13_fits_31 ?_
        refine lv_iload_n hx hb dX13_fits_34 rfl (lv_at hl 1 rfl) ?_
        refine hp_iald hx hb hZ ea23 (hq_in (by omega) (by omega)) dX13_fits_35 ?_
        refine lv_topi (fun y71 ey72 => ?_)
        have b73 := hq_rng y71
        have b74 : (y71).toInt = (rh 13 (i).toNatClampNeg).toInt := by rw [ey72, hrf22]
        refine lv_iload hx hb dX13_fits_36 (lv_at hl 4 rfl) ?_
        refine lv_icmp_eq (tgt := 43) hx hb dX13_fits_38 (by decide) (fun c75 => ?_) (fun c75 => ?_)
        · have c75 : (y71).toInt = (pe).toInt := hq_eqi.mp c75
          refine lv_aload_n hx hb dX13_fits_43 rfl (lv_at hl 0 rfl) ?_
          refine hp_get (v := .ref (q + 11)) hx hb hts hown hZ hc0 fl_X13_32 rfl dX13_fits_44 ?_
          refine lv_iload_n hx hb dX13_fits_47 rfl (lv_at hl 1 rfl) ?_
          obtain ⟨rf76, hrf77⟩ : ∃ f : Nat → Int32, f = rh 11 := ⟨_, rfl⟩
          have ea78 : V (q + 11) = some (.inl (cs 1, 120, .inl (rf76))) := by rw [hrf77]; exact hp0 11 (by decide)
          have hra79 := hq_rg hP (hr_11 hR) ea78
          refine hp_iald hx hb hZ ea78 (hq_in (by omega) (by omega)) dX13_fits_48 ?_
          refine lv_topi (fun y80 ey81 => ?_)
          have b82 := hq_rng y80
          have b83 : (y80).toInt = (rh 11 (i).toNatClampNeg).toInt := by rw [ey81, hrf77]
          refine lv_iconst (v := -1) hx hb dX13_fits_49 (by decide) ?_
          refine lv_icmp_eq (tgt := 92) hx hb dX13_fits_50 (by decide) (fun c84 => ?_) (fun c84 => ?_)
          · have c84 : (y80).toInt = (-1 : Int) := hq_eqi.mp c84
            refine lv_iconst (v := 1) hx hb dX13_fits_92 (by decide) ?_
            refine lv_goto (tgt := 97) hx hb dX13_fits_93 (by decide) ?_
            have hl85 : (1 : Int32).toInt = 1 := by decide
            exact hp_zret hx hb hr rfl hlocks hZ ⟨rfl, rfl, (by omega)⟩ dX13_fits_97
          · have c84 : ¬ (y80).toInt = (-1 : Int) := fun h9 => c84 (hq_eqi.mpr h9)
            refine lv_aload_n hx hb dX13_fits_53 rfl (lv_at hl 0 rfl) ?_
            refine hp_get (v := .ref (q + 11)) hx hb hts hown hZ hc0 fl_X13_32 rfl dX13_fits_54 ?_
            refine lv_iload_n hx hb dX13_fits_57 rfl (lv_at hl 1 rfl) ?_
            refine hp_iald hx hb hZ ea78 (hq_in (by omega) (by omega)) dX13_fits_58 ?_
            refine lv_topi (fun y86 ey87 => ?_)
            have b88 := hq_rng y86
            have b89 : (y86).toInt = (rh 11 (i).toNatClampNeg).toInt := by rw [ey87, hrf77]
            refine lv_aload_n hx hb dX13_fits_59 rfl (lv_at hl 0 rfl) ?_
            refine hp_get (v := .ref (q + 10)) hx hb hts hown hZ hc0 fl_X13_29 rfl dX13_fits_60 ?_
            refine lv_iload_n hx hb dX13_fits_63 rfl (lv_at hl 1 rfl) ?_
            refine hp_iald hx hb hZ ea3 (hq_in (by omega) (by omega)) dX13_fits_64 ?_
            refine lv_topi (fun y90 ey91 => ?_)
            have b92 := hq_rng y90
            have b93 : (y90).toInt = (rh 10 (i).toNatClampNeg).toInt := by rw [ey91, hrf2]
            refine lv_iconst (v := 4) hx hb dX13_fits_65 (by decide) ?_
            refine lv_icmp_eq (tgt := 79) hx hb dX13_fits_66 (by decide) (fun c94 => ?_) (fun c94 => ?_)
            · have c94 : (y90).toInt = (4 : Int) := hq_eqi.mp c94
              refine lv_iload_n hx hb dX13_fits_79 rfl (lv_at hl 2 rfl) ?_
              refine lv_goto (tgt := 89) hx hb dX13_fits_80 (by decide) ?_
              refine lv_icmp_ne (tgt := 96) hx hb dX13_fits_89 (by decide) (fun c95 => ?_) (fun c95 => ?_)
              · have c95 : ¬ (y86).toInt = (v).toInt := fun h9 => c95 (hq_eqi.mpr h9)
                refine lv_iconst (v := 0) hx hb dX13_fits_96 (by decide) ?_
                have hl96 : (0 : Int32).toInt = 0 := by decide
                exact hp_zret hx hb hr rfl hlocks hZ ⟨rfl, rfl, (by omega)⟩ dX13_fits_97
              · have c95 : (y86).toInt = (v).toInt := hq_eqi.mp c95
                refine lv_iconst (v := 1) hx hb dX13_fits_92 (by decide) ?_
                refine lv_goto (tgt := 97) hx hb dX13_fits_93 (by decide) ?_
                have hl97 : (1 : Int32).toInt = 1 := by decide
                exact hp_zret hx hb hr rfl hlocks hZ ⟨rfl, rfl, (by omega)⟩ dX13_fits_97
            · have c94 : ¬ (y90).toInt = (4 : Int) := fun h9 => c94 (hq_eqi.mpr h9)
              refine lv_aload_n hx hb dX13_fits_69 rfl (lv_at hl 0 rfl) ?_
              refine hp_get (v := .ref (q + 10)) hx hb hts hown hZ hc0 fl_X13_29 rfl dX13_fits_70 ?_
              refine lv_iload_n hx hb dX13_fits_73 rfl (lv_at hl 1 rfl) ?_
              refine hp_iald hx hb hZ ea3 (hq_in (by omega) (by omega)) dX13_fits_74 ?_
              refine lv_topi (fun y98 ey99 => ?_)
              have b100 := hq_rng y98
              have b101 : (y98).toInt = (rh 10 (i).toNatClampNeg).toInt := by rw [ey99, hrf2]
              refine lv_iconst (v := 5) hx hb dX13_fits_75 (by decide) ?_
              refine lv_icmp_ne (tgt := 83) hx hb dX13_fits_76 (by decide) (fun c102 => ?_) (fun c102 => ?_)
              · have c102 : ¬ (y98).toInt = (5 : Int) := fun h9 => c102 (hq_eqi.mpr h9)
                refine lv_aload_n hx hb dX13_fits_83 rfl (lv_at hl 0 rfl) ?_
                refine hp_get (v := .ref (q + 9)) hx hb hts hown hZ hc0 fl_X13_16 rfl dX13_fits_84 ?_
                refine lv_iload_n hx hb dX13_fits_87 rfl (lv_at hl 2 rfl) ?_
                obtain ⟨rf103, hrf104⟩ : ∃ f : Nat → Int32, f = rh 9 := ⟨_, rfl⟩
                have ea105 : V (q + 9) = some (.inl (cs 1, 60, .inl (rf103))) := by rw [hrf104]; exact hp0 9 (by decide)
                have hra106 := hq_rg hP (hr_9 hR) ea105
                refine hp_iald hx hb hZ ea105 (hq_in (by omega) (by omega)) dX13_fits_88 ?_
                refine lv_topi (fun y107 ey108 => ?_)
                have b109 := hq_rng y107
                have b110 : (y107).toInt = (rh 9 (v).toNatClampNeg).toInt := by rw [ey108, hrf104]
                refine lv_icmp_ne (tgt := 96) hx hb dX13_fits_89 (by decide) (fun c111 => ?_) (fun c111 => ?_)
                · have c111 : ¬ (y86).toInt = (y107).toInt := fun h9 => c111 (hq_eqi.mpr h9)
                  refine lv_iconst (v := 0) hx hb dX13_fits_96 (by decide) ?_
                  have hl112 : (0 : Int32).toInt = 0 := by decide
                  exact hp_zret hx hb hr rfl hlocks hZ ⟨rfl, rfl, (by omega)⟩ dX13_fits_97
                · have c111 : (y86).toInt = (y107).toInt := hq_eqi.mp c111
                  refine lv_iconst (v := 1) hx hb dX13_fits_92 (by decide) ?_
                  refine lv_goto (tgt := 97) hx hb dX13_fits_93 (by decide) ?_
                  have hl113 : (1 : Int32).toInt = 1 := by decide
                  exact hp_zret hx hb hr rfl hlocks hZ ⟨rfl, rfl, (by omega)⟩ dX13_fits_97
              · have c102 : (y98).toInt = (5 : Int) := hq_eqi.mp c102
                refine lv_iload_n hx hb dX13_fits_79 rfl (lv_at hl 2 rfl) ?_
                refine lv_goto (tgt := 89) hx hb dX13_fits_80 (by decide) ?_
                refine lv_icmp_ne (tgt := 96) hx hb dX13_fits_89 (by decide) (fun c114 => ?_) (fun c114 => ?_)
                · have c114 : ¬ (y86).toInt = (v).toInt := fun h9 => c114 (hq_eqi.mpr h9)
                  refine lv_iconst (v := 0) hx hb dX13_fits_96 (by decide) ?_
                  have hl115 : (0 : Int32).toInt = 0 := by decide
                  exact hp_zret hx hb hr rfl hlocks hZ ⟨rfl, rfl, (by omega)⟩ dX13_fits_97
                · have c114 : (y86).toInt = (v).toInt := hq_eqi.mp c114
                  refine lv_iconst (v := 1) hx hb dX13_fits_92 (by decide) ?_
                  refine lv_goto (tgt := 97) hx hb dX13_fits_93 (by decide) ?_
                  have hl116 : (1 : Int32).toInt = 1 := by decide
                  exact hp_zret hx hb hr rfl hlocks hZ ⟨rfl, rfl, (by omega)⟩ dX13_fits_97
        · have c75 : ¬ (y71).toInt = (pe).toInt := fun h9 => c75 (hq_eqi.mpr h9)
          refine lv_iconst (v := 0) hx hb dX13_fits_41 (by decide) ?_
          have hl117 : (0 : Int32).toInt = 0 := by decide
          exact hp_zret hx hb hr rfl hlocks hZ ⟨rfl, rfl, (by omega)⟩ dX13_fits_42

set_option maxHeartbeats 4000000 in
set_option maxRecDepth 100000 in
theorem y_fo (l : Launch) (D : va_G) (cs : Nat → ClassId) (B : Nat) (G : hq_G) (V : hp_V) (n : Nat) (hI : hq_I cs G V) (q : Nat) (mo : Nat) (w : sp_W) (bk : sp_B) (c9 : Int) (rh : hm_Rh) (m_tp : Int32) (m_sz : Int32) (m_fr : Int32) (m_bh : Int32) (m_hd : Int32) (m_ft : Int32) (m_fa : Int32) (m_le : Int32) (m_fo : Int32) (m_as : Int32) (m_fd : Int32) (m_bc : Int32) (m_bg : Int32) (m_bs : Int32) (m_be : Int32) (m_b0 : Int32) (m_b1 : Int32) (m_cm : Int32) (m_hc : Int32) (k : Int32) (v : Int32) (te : Int32) (pe : Int32) (hc0 : V (mo) = some (.inr (13, hm_o q (m_tp) (m_sz) (m_fr) (m_bh) (m_hd) (m_ft) (m_fa) (m_le) (m_fo) (m_as) (m_fd) (m_bc) (m_bg) (m_bs) (m_be) (m_b0) (m_b1) (m_cm) (m_hc)))) (hp0 : hm_AR cs V q rh) (hR : hq_RT G q) (hmo : G mo = some (24, 0, 0, 0)) (hBm : hm_BK rh 0 w bk) (hgd2 : sp_good2 bk) (hk : ¬ k.toInt = 2) (hv : 0 ≤ v.toInt ∧ v.toInt < 30) (hc9 : (rh 9 (v).toNatClampNeg).toInt = c9) : hp_M l yX13_firstOf cX13_firstOf 6 (some .int) ({ frames := 2, cells := 0, slots := 0, locals := 45 }) D cs B V n [.ref (mo), .int (k), .int (v), .int (te), .int (pe)] (hp_QI D cs B (fun r V' n' => n = n' ∧ V = V' ∧ (r.toInt = sp_nf k.toInt v.toInt c9 te.toInt pe.toInt bk.2.2.2 0))) 0 0 := by
  refine hp_walk (R0 := RX13) (by decide) rfl ?_ (Nat.le_of_ble_eq_true rfl)
  intro p e s m below meth c ls hx hb hr hts hown hlocks hin hml hZ hl
  have hP : hq_I cs G V := hI
  have hl : lv_has ls 6 [(0, .ref (mo)), (1, .int (k)), (2, .int (v)), (3, .int (te)), (4, .int (pe))] := hl
  have hb_m_tp := hq_rng m_tp
  have hb_m_sz := hq_rng m_sz
  have hb_m_fr := hq_rng m_fr
  have hb_m_bh := hq_rng m_bh
  have hb_m_hd := hq_rng m_hd
  have hb_m_ft := hq_rng m_ft
  have hb_m_fa := hq_rng m_fa
  have hb_m_le := hq_rng m_le
  have hb_m_fo := hq_rng m_fo
  have hb_m_as := hq_rng m_as
  have hb_m_fd := hq_rng m_fd
  have hb_m_bc := hq_rng m_bc
  have hb_m_bg := hq_rng m_bg
  have hb_m_bs := hq_rng m_bs
  have hb_m_be := hq_rng m_be
  have hb_m_b0 := hq_rng m_b0
  have hb_m_b1 := hq_rng m_b1
  have hb_m_cm := hq_rng m_cm
  have hb_m_hc := hq_rng m_hc
  have hb_k := hq_rng k
  have hb_v := hq_rng v
  have hb_te := hq_rng te
  have hb_pe := hq_rng pe
  have hll9 := hBm.2.2.2.2.2.1
  refine lv_iconst (v := 0) hx hb dX13_firstOf_0 (by decide) ?_
  refine lv_istore (lv' := [(5, .int (0)), (0, .ref (mo)), (1, .int (k)), (2, .int (v)), (3, .int (te)), (4, .int (pe))]) hx hb dX13_firstOf_1 hl (by decide) rfl (fun ls hl => ?_)
  have hl1 : (0 : Int32).toInt = 0 := by decide
  suffices lp3 : ∀ (k9 : Nat) (H9 : Heap) (locs9 : List Loc) (ls : Array Slot) (i : Int32), (200 - i.toInt).toNat = k9 → hp_Z D cs B s V H9 n locs9 → hq_I cs G V → 0 ≤ i.toInt → i.toInt ≤ bk.2.2.2.length → (sp_nf k.toInt v.toInt c9 te.toInt pe.toInt (bk.2.2.2.drop i.toNatClampNeg) i.toInt = sp_nf k.toInt v.toInt c9 te.toInt pe.toInt bk.2.2.2 0) → lv_has ls 6 [(5, .int (i)), (0, .ref (mo)), (1, .int (k)), (2, .int (v)), (3, .int (te)), (4, .int (pe))] → W p l e ({ frames := 2, cells := 0, slots := 0, locals := 45 }) s m ([.ref (mo), .int (k), .int (v), .int (te), .int (pe)] : List Value).toArray below meth c H9 locs9 0 0 (MQ below (hp_QI D cs B (fun r V' n' => n = n' ∧ V = V' ∧ (r.toInt = sp_nf k.toInt v.toInt c9 te.toInt pe.toInt bk.2.2.2 0))) ([.ref (mo), .int (k), .int (v), .int (te), .int (pe)] : List Value).toArray s 0 0 (hp_F B)) (F0 m 3 ls []) from lp3 _ _ _ ls (0) rfl hZ hP (by omega) (by omega) (rfl) (lv_sub hl [0, 1, 2, 3, 4, 5] rfl)
  intro k9
  induction k9 using Nat.strongRecOn with
  | _ k9 ih3 =>
    intro H9 locs9 ls i   hk3 hZ hP    hv2 hv3 hnf hl
    have hb_i := hq_rng i
    refine lv_iload hx hb dX13_firstOf_3 (lv_at hl 0 rfl) ?_
    refine lv_aload_n hx hb dX13_firstOf_5 rfl (lv_at hl 1 rfl) ?_
    refine hp_get (v := .ref (q + 2)) hx hb hts hown hZ hc0 fl_X13_10 rfl dX13_firstOf_6 ?_
    refine lv_iconst (v := 0) hx hb dX13_firstOf_9 (by decide) ?_
    obtain ⟨rf4, hrf5⟩ : ∃ f : Nat → Int32, f = rh 2 := ⟨_, rfl⟩
    have ea6 : V (q + 2) = some (.inl (cs 1, 2, .inl (rf4))) := by rw [hrf5]; exact hp0 2 (by decide)
    have hra7 := hq_rg hP (hr_2 hR) ea6
    refine hp_iald hx hb hZ ea6 (by unfold vp_in; decide) dX13_firstOf_10 ?_
    refine lv_topi (fun y8 ey9 => ?_)
    have b10 : hq_ir (hq_lo 8) (hq_hi 8) y8 := by rw [ey9]; exact hra7 _ (by decide)
    have b10 : 0 ≤ (y8).toInt ∧ (y8).toInt ≤ 60 := b10
    have b11 : (y8).toInt = (bk.2.2.2.length : Int) := by rw [ey9, hrf5]; exact hBm.2.2.1
    refine lv_icmp_ge (tgt := 47) hx hb dX13_firstOf_11 (by decide) (fun c12 => ?_) (fun c12 => ?_)
    · have c12 : (y8).toInt ≤ (i).toInt := hq_lei.mp c12
      refine lv_iconst (v := -1) hx hb dX13_firstOf_47 (by decide) ?_
      have hl13 : (-1 : Int32).toInt = -1 := by decide
      exact hp_iret hx hb hr hlocks hZ ⟨rfl, rfl, by rw [← hnf, sp_nf_o (by have h8 := (hq_nn (z := i) (by omega)).1; omega)]; omega⟩ dX13_firstOf_48
    · have c12 : ¬ (y8).toInt ≤ (i).toInt := fun h9 => c12 (hq_lei.mpr h9)
      have hii : (i.toNatClampNeg : Int) = i.toInt := (hq_nn (by omega)).1.symm
      obtain ⟨x9, hx9⟩ : ∃ t, bk.2.2.2[i.toNatClampNeg]? = some t := ⟨_, List.getElem?_eq_getElem (by omega)⟩
      obtain ⟨hq1, hq2, hq3, hq4, -⟩ := hBm.2.2.2.2.2.2 _ _ hx9
      rw [show 60 * 0 + i.toNatClampNeg = i.toNatClampNeg by omega] at hq1 hq2 hq3 hq4
      obtain ⟨hg1, hg2, -⟩ := hgd2 _ _ hx9
      refine lv_aload_n hx hb dX13_firstOf_14 rfl (lv_at hl 1 rfl) ?_
      refine hp_get (v := .ref (q + 10)) hx hb hts hown hZ hc0 fl_X13_29 rfl dX13_firstOf_15 ?_
      refine lv_iload hx hb dX13_firstOf_18 (lv_at hl 0 rfl) ?_
      obtain ⟨rf14, hrf15⟩ : ∃ f : Nat → Int32, f = rh 10 := ⟨_, rfl⟩
      have ea16 : V (q + 10) = some (.inl (cs 1, 120, .inl (rf14))) := by rw [hrf15]; exact hp0 10 (by decide)
      have hra17 := hq_rg hP (hr_10 hR) ea16
      refine hp_iald hx hb hZ ea16 (hq_in (by omega) (by omega)) dX13_firstOf_20 ?_
      refine lv_topi (fun y18 ey19 => ?_)
      have b20 := hq_rng y18
      have b21 : (y18).toInt = (rh 10 (i).toNatClampNeg).toInt := by rw [ey19, hrf15]
      refine lv_iload_n hx hb dX13_firstOf_21 rfl (lv_at hl 2 rfl) ?_
      refine lv_icmp_ne (tgt := 41) hx hb dX13_firstOf_22 (by decide) (fun c22 => ?_) (fun c22 => ?_)
      · have c22 : ¬ (y18).toInt = (k).toInt := fun h9 => c22 (hq_eqi.mpr h9)
        obtain ⟨y23, ey24⟩ : ∃ y : Int32, y = i + (1) := ⟨_, rfl⟩
        obtain ⟨k25, hk26, b27, b28⟩ := hq_add (i) (1)
        rw [← ey24] at hk26 b27 b28
        have hk26 : (y23).toInt = (i).toInt + (1) + k25 * 4294967296 := hk26
        obtain rfl : k25 = 0 := by omega
        refine lv_iinc (v := y23) (lv' := [(5, .int (y23)), (0, .ref (mo)), (1, .int (k)), (2, .int (v)), (3, .int (te)), (4, .int (pe))]) hx hb dX13_firstOf_41 hl (k := 0) rfl (by rw [ey24]; rfl) (by decide) rfl (fun ls hl => ?_)
        refine lv_goto (tgt := 3) hx hb dX13_firstOf_44 (by decide) ?_
        exact ih3 _ (by omega) _ _ ls (y23) rfl hZ hP (by omega) (by omega) (by rw [← hnf, sp_nf_n hx9 (fun g9 => by unfold sp_ft at g9; omega), show (y23).toNatClampNeg = i.toNatClampNeg + 1 from (by have h8 := (hq_nn (z := y23) (by omega)).1; omega), show (y23).toInt = i.toInt + 1 by omega]) (lv_sub hl [0, 1, 2, 3, 4, 5] rfl)
      · have c22 : (y18).toInt = (k).toInt := hq_eqi.mp c22
        refine lv_aload_n hx hb dX13_firstOf_25 rfl (lv_at hl 1 rfl) ?_
        refine lv_iload hx hb dX13_firstOf_26 (lv_at hl 0 rfl) ?_
        refine lv_iload_n hx hb dX13_firstOf_28 rfl (lv_at hl 3 rfl) ?_
        refine lv_iload_n hx hb dX13_firstOf_29 rfl (lv_at hl 4 rfl) ?_
        refine lv_iload hx hb dX13_firstOf_30 (lv_at hl 5 rfl) ?_
        refine hp_calli (hp_runV (As := [.int (i), .int (v), .int (te), .int (pe)]) (rest := []) hx hb hml hown hts (y_fitsG l D cs B G V n hP (q) (mo) (rh) (m_tp) (m_sz) (m_fr) (m_bh) (m_hd) (m_ft) (m_fa) (m_le) (m_fo) (m_as) (m_fd) (m_bc) (m_bg) (m_bs) (m_be) (m_b0) (m_b1) (m_cm) (m_hc) (i) (v) (te) (pe)  hc0 hp0 hR hmo (by omega) (by omega)) hZ hc0 cv_X13_327 rfl rfl ⟨Nat.le_of_ble_eq_true rfl, Nat.le_of_ble_eq_true rfl⟩ rfl hl.1 rfl (Nat.le_of_ble_eq_true rfl) dX13_firstOf_32 ⟨(Nat.le_of_ble_eq_true rfl), (Nat.le_of_ble_eq_true rfl)⟩) hZ (fun r32 V29 n30 _ _ hw31 hZ => ?_)
        obtain ⟨rfl, rfl, hp35⟩ := hw31
        have b36 := hq_rng r32
        refine lv_if_eq (tgt := 41) hx hb dX13_firstOf_35 (by decide) (fun c37 => ?_) (fun c37 => ?_)
        · have c37 : (r32).toInt = (0 : Int) := hq_eqi.mp c37
          obtain ⟨y38, ey39⟩ : ∃ y : Int32, y = i + (1) := ⟨_, rfl⟩
          obtain ⟨k40, hk41, b42, b43⟩ := hq_add (i) (1)
          rw [← ey39] at hk41 b42 b43
          have hk41 : (y38).toInt = (i).toInt + (1) + k40 * 4294967296 := hk41
          obtain rfl : k40 = 0 := by omega
          refine lv_iinc (v := y38) (lv' := [(5, .int (y38)), (0, .ref (mo)), (1, .int (k)), (2, .int (v)), (3, .int (te)), (4, .int (pe))]) hx hb dX13_firstOf_41 hl (k := 0) rfl (by rw [ey39]; rfl) (by decide) rfl (fun ls hl => ?_)
          refine lv_goto (tgt := 3) hx hb dX13_firstOf_44 (by decide) ?_
          exact ih3 _ (by omega) _ _ ls (y38) rfl hZ hP (by omega) (by omega) (by rw [← hnf, sp_nf_n hx9 (fun g9 => by unfold sp_ft at g9; omega), show (y38).toNatClampNeg = i.toNatClampNeg + 1 from (by have h8 := (hq_nn (z := y38) (by omega)).1; omega), show (y38).toInt = i.toInt + 1 by omega]) (lv_sub hl [0, 1, 2, 3, 4, 5] rfl)
        · have c37 : ¬ (r32).toInt = (0 : Int) := fun h9 => c37 (hq_eqi.mpr h9)
          refine lv_iload hx hb dX13_firstOf_38 (lv_at hl 0 rfl) ?_
          exact hp_iret hx hb hr hlocks hZ ⟨rfl, rfl, by rw [← hnf, sp_nf_y hx9 (by unfold sp_ft; omega)]⟩ dX13_firstOf_40

set_option maxHeartbeats 4000000 in
set_option maxRecDepth 100000 in
theorem x_isPl (l : Launch) (D : va_G) (cs : Nat → ClassId) (B : Nat) (G : hq_G) (V : hp_V) (n : Nat) (hI : hq_I cs G V) (a : Nat) (kb : Nat) (qt : Nat) (qb : Nat) (v : Int32) (te : Int32) (pe : Int32) (c_fs : Int32) (bc : Int32) (bv : Int32) (bl : Int32) (hc0 : V (a) = some (.inr (11, [.ref (kb), .ref (kb + 2), .ref (kb + 5), .ref (kb + 46), .ref (kb + 50), .ref (kb + 62), .ref (kb + 87), .int (c_fs), .ref (qt), .ref (qb)]))) (hc1 : V (qt) = some (.inr (0, [.ref (qt + 1), .int (bc), .ref (qt + 14), .ref (qt + 75), .int (bv), .ref (qt + 76), .int (bl)]))) : hp_M l yX11_isPlace cX11_isPlace 4 (some .boolean) ({ frames := 1, cells := 0, slots := 0, locals := 21 }) D cs B V n [.ref (a), .int (v), .int (te), .int (pe)] (hp_QI D cs B (fun r V' n' => n = n' ∧ V = V' ∧ ((r.toInt = 1 ∧ (0 ≤ v.toInt ∧ v.toInt < bv.toInt ∧ 0 ≤ te.toInt ∧ te.toInt < 5 ∧ 0 ≤ pe.toInt ∧ pe.toInt < 6)) ∨ (r.toInt = 0 ∧ ¬ (0 ≤ v.toInt ∧ v.toInt < bv.toInt ∧ 0 ≤ te.toInt ∧ te.toInt < 5 ∧ 0 ≤ pe.toInt ∧ pe.toInt < 6))))) 0 0 := by
  refine hp_walk (R0 := RX11) (by decide) rfl ?_ (Nat.le_of_ble_eq_true rfl)
  intro p e s m below meth c ls hx hb hr hts hown hlocks hin hml hZ hl
  have hP : hq_I cs G V := hI
  have hl : lv_has ls 4 [(0, .ref (a)), (1, .int (v)), (2, .int (te)), (3, .int (pe))] := hl
  have hb_v := hq_rng v
  have hb_te := hq_rng te
  have hb_pe := hq_rng pe
  have hb_c_fs := hq_rng c_fs
  have hb_bc := hq_rng bc
  have hb_bv := hq_rng bv
  have hb_bl := hq_rng bl
  refine lv_iload_n hx hb dX11_isPlace_0 rfl (lv_at hl 1 rfl) ?_
  refine lv_if_lt (tgt := 38) hx hb dX11_isPlace_1 (by decide) (fun c1 => ?_) (fun c1 => ?_)
  · have c1 : (v).toInt < (0 : Int) := hq_lti.mp c1
    refine lv_iconst (v := 0) hx hb dX11_isPlace_38 (by decide) ?_
    have hl2 : (0 : Int32).toInt = 0 := by decide
    exact hp_zret hx hb hr rfl hlocks hZ ⟨rfl, rfl, (by omega)⟩ dX11_isPlace_39
  · have c1 : ¬ (v).toInt < (0 : Int) := fun h9 => c1 (hq_lti.mpr h9)
    refine lv_iload_n hx hb dX11_isPlace_4 rfl (lv_at hl 1 rfl) ?_
    refine lv_aload_n hx hb dX11_isPlace_5 rfl (lv_at hl 0 rfl) ?_
    refine hp_get (v := .ref (qt)) hx hb hts hown hZ hc0 fl_X11_64 rfl dX11_isPlace_6 ?_
    refine hp_get (v := .int (bv)) hx hb hts hown hZ hc1 fl_X11_96 rfl dX11_isPlace_9 ?_
    refine lv_icmp_ge (tgt := 38) hx hb dX11_isPlace_12 (by decide) (fun c3 => ?_) (fun c3 => ?_)
    · have c3 : (bv).toInt ≤ (v).toInt := hq_lei.mp c3
      refine lv_iconst (v := 0) hx hb dX11_isPlace_38 (by decide) ?_
      have hl4 : (0 : Int32).toInt = 0 := by decide
      exact hp_zret hx hb hr rfl hlocks hZ ⟨rfl, rfl, (by omega)⟩ dX11_isPlace_39
    · have c3 : ¬ (bv).toInt ≤ (v).toInt := fun h9 => c3 (hq_lei.mpr h9)
      refine lv_iload_n hx hb dX11_isPlace_15 rfl (lv_at hl 2 rfl) ?_
      refine lv_if_lt (tgt := 38) hx hb dX11_isPlace_16 (by decide) (fun c5 => ?_) (fun c5 => ?_)
      · have c5 : (te).toInt < (0 : Int) := hq_lti.mp c5
        refine lv_iconst (v := 0) hx hb dX11_isPlace_38 (by decide) ?_
        have hl6 : (0 : Int32).toInt = 0 := by decide
        exact hp_zret hx hb hr rfl hlocks hZ ⟨rfl, rfl, (by omega)⟩ dX11_isPlace_39
      · have c5 : ¬ (te).toInt < (0 : Int) := fun h9 => c5 (hq_lti.mpr h9)
        refine lv_iload_n hx hb dX11_isPlace_19 rfl (lv_at hl 2 rfl) ?_
        refine lv_iconst (v := 5) hx hb dX11_isPlace_20 (by decide) ?_
        refine lv_icmp_ge (tgt := 38) hx hb dX11_isPlace_21 (by decide) (fun c7 => ?_) (fun c7 => ?_)
        · have c7 : (5 : Int) ≤ (te).toInt := hq_lei.mp c7
          refine lv_iconst (v := 0) hx hb dX11_isPlace_38 (by decide) ?_
          have hl8 : (0 : Int32).toInt = 0 := by decide
          exact hp_zret hx hb hr rfl hlocks hZ ⟨rfl, rfl, (by omega)⟩ dX11_isPlace_39
        · have c7 : ¬ (5 : Int) ≤ (te).toInt := fun h9 => c7 (hq_lei.mpr h9)
          refine lv_iload_n hx hb dX11_isPlace_24 rfl (lv_at hl 3 rfl) ?_
          refine lv_if_lt (tgt := 38) hx hb dX11_isPlace_25 (by decide) (fun c9 => ?_) (fun c9 => ?_)
          · have c9 : (pe).toInt < (0 : Int) := hq_lti.mp c9
            refine lv_iconst (v := 0) hx hb dX11_isPlace_38 (by decide) ?_
            have hl10 : (0 : Int32).toInt = 0 := by decide
            exact hp_zret hx hb hr rfl hlocks hZ ⟨rfl, rfl, (by omega)⟩ dX11_isPlace_39
          · have c9 : ¬ (pe).toInt < (0 : Int) := fun h9 => c9 (hq_lti.mpr h9)
            refine lv_iload_n hx hb dX11_isPlace_28 rfl (lv_at hl 3 rfl) ?_
            refine lv_bipush (v := 6) hx hb dX11_isPlace_29 (by decide) ?_
            refine lv_icmp_ge (tgt := 38) hx hb dX11_isPlace_31 (by decide) (fun c11 => ?_) (fun c11 => ?_)
            · have c11 : (6 : Int) ≤ (pe).toInt := hq_lei.mp c11
              refine lv_iconst (v := 0) hx hb dX11_isPlace_38 (by decide) ?_
              have hl12 : (0 : Int32).toInt = 0 := by decide
              exact hp_zret hx hb hr rfl hlocks hZ ⟨rfl, rfl, (by omega)⟩ dX11_isPlace_39
            · have c11 : ¬ (6 : Int) ≤ (pe).toInt := fun h9 => c11 (hq_lei.mpr h9)
              refine lv_iconst (v := 1) hx hb dX11_isPlace_34 (by decide) ?_
              refine lv_goto (tgt := 39) hx hb dX11_isPlace_35 (by decide) ?_
              have hl13 : (1 : Int32).toInt = 1 := by decide
              exact hp_zret hx hb hr rfl hlocks hZ ⟨rfl, rfl, (by omega)⟩ dX11_isPlace_39

set_option maxHeartbeats 4000000 in
set_option maxRecDepth 100000 in
theorem x_isSlip (l : Launch) (D : va_G) (cs : Nat → ClassId) (B : Nat) (G : hq_G) (V : hp_V) (n : Nat) (hI : hq_I cs G V) (a : Nat) (kb : Nat) (qt : Nat) (qb : Nat) (w : sp_W) (bk : sp_B) (c9 : Int) (v : Int32) (te : Int32) (pe : Int32) (c_fs : Int32) (bc : Int32) (bv : Int32) (bl : Int32) (mz : Int32) (nz : Int32) (vf : Nat → Int32) (hc0 : V (a) = some (.inr (11, [.ref (kb), .ref (kb + 2), .ref (kb + 5), .ref (kb + 46), .ref (kb + 50), .ref (kb + 62), .ref (kb + 87), .int (c_fs), .ref (qt), .ref (qb)]))) (hc1 : V (qt) = some (.inr (0, [.ref (qt + 1), .int (bc), .ref (qt + 14), .ref (qt + 75), .int (bv), .ref (qt + 76), .int (bl)]))) (hc2 : V (qt + 75) = some (.inl (cs 1, 30, .inl (vf)))) (hc3 : V (kb + 5) = some (.inr (6, [.ref (kb + 6), .int (mz), .ref (kb + 24), .ref (kb + 34), .ref (kb + 44)]))) (hc4 : V (kb + 6) = some (.inr (3, [.ref (kb + 7), .int (nz)]))) (hp0 : hx_LL cs V (qt + 77) w bk.2.2.2) (hp1 : hx_BS cs V qt) (hbl : bl.toInt = (bk.2.2.2.length : Int)) (hv : 0 ≤ v.toInt ∧ v.toInt < 30) (hc9 : (vf v.toNatClampNeg).toInt = c9) : hp_M l yX11_isSlipAt cX11_isSlipAt 4 (some .boolean) ({ frames := 4, cells := 0, slots := 0, locals := 92 }) D cs B V n [.ref (a), .int (v), .int (te), .int (pe)] (hp_QI D cs B (fun r V' n' => n = n' ∧ V = V' ∧ ((r.toInt = 1 ∧ 0 < nz.toInt ∧ (sp_nf 3 v.toInt c9 te.toInt pe.toInt bk.2.2.2 0) = -1) ∨ (r.toInt = 0 ∧ ¬ (0 < nz.toInt ∧ (sp_nf 3 v.toInt c9 te.toInt pe.toInt bk.2.2.2 0) = -1))))) 0 0 := by
  refine hp_walk (R0 := RX11) (by decide) rfl ?_ (Nat.le_of_ble_eq_true rfl)
  intro p e s m below meth c ls hx hb hr hts hown hlocks hin hml hZ hl
  have hP : hq_I cs G V := hI
  have hl : lv_has ls 4 [(0, .ref (a)), (1, .int (v)), (2, .int (te)), (3, .int (pe))] := hl
  have hb_v := hq_rng v
  have hb_te := hq_rng te
  have hb_pe := hq_rng pe
  have hb_c_fs := hq_rng c_fs
  have hb_bc := hq_rng bc
  have hb_bv := hq_rng bv
  have hb_bl := hq_rng bl
  have hb_mz := hq_rng mz
  have hb_nz := hq_rng nz
  refine lv_aload_n hx hb dX11_isSlipAt_0 rfl (lv_at hl 0 rfl) ?_
  refine hp_get (v := .ref (kb + 5)) hx hb hts hown hZ hc0 fl_X11_28 rfl dX11_isSlipAt_1 ?_
  refine hp_get (v := .ref (kb + 6)) hx hb hts hown hZ hc3 fl_X11_149 rfl dX11_isSlipAt_4 ?_
  refine hp_get (v := .int (nz)) hx hb hts hown hZ hc4 fl_X11_153 rfl dX11_isSlipAt_7 ?_
  refine lv_if_le (tgt := 33) hx hb dX11_isSlipAt_10 (by decide) (fun c1 => ?_) (fun c1 => ?_)
  · have c1 : (nz).toInt ≤ (0 : Int) := hq_lei.mp c1
    refine lv_iconst (v := 0) hx hb dX11_isSlipAt_33 (by decide) ?_
    have hl2 : (0 : Int32).toInt = 0 := by decide
    exact hp_zret hx hb hr rfl hlocks hZ ⟨rfl, rfl, (by omega)⟩ dX11_isSlipAt_34
  · have c1 : ¬ (nz).toInt ≤ (0 : Int) := fun h9 => c1 (hq_lei.mpr h9)
    refine lv_aload_n hx hb dX11_isSlipAt_13 rfl (lv_at hl 0 rfl) ?_
    refine hp_get (v := .ref (qt)) hx hb hts hown hZ hc0 fl_X11_64 rfl dX11_isSlipAt_14 ?_
    refine lv_iconst (v := 3) hx hb dX11_isSlipAt_17 (by decide) ?_
    refine lv_iconst (v := 0) hx hb dX11_isSlipAt_18 (by decide) ?_
    refine lv_iload_n hx hb dX11_isSlipAt_19 rfl (lv_at hl 1 rfl) ?_
    refine lv_iload_n hx hb dX11_isSlipAt_20 rfl (lv_at hl 2 rfl) ?_
    refine lv_iload_n hx hb dX11_isSlipAt_21 rfl (lv_at hl 3 rfl) ?_
    have hl3 : (3 : Int32).toInt = 3 := by decide
    have hl4 : (0 : Int32).toInt = 0 := by decide
    refine hp_calli (hp_runV (As := [.int (3), .int (0), .int (v), .int (te), .int (pe)]) (rest := []) hx hb hml hown hts (x_nf l D cs B G V n hP (qt) (c9) (w) (bk) (3) (0) (v) (te) (pe) (bc) (bv) (bl) (vf)  hc1 hc2 hp0 hp1 hbl (by omega) (by omega) hc9) hZ hc1 cv_X11_292 rfl rfl ⟨Nat.le_of_ble_eq_true rfl, Nat.le_of_ble_eq_true rfl⟩ rfl hl.1 rfl (Nat.le_of_ble_eq_true rfl) dX11_isSlipAt_22 ⟨(Nat.le_of_ble_eq_true rfl), (Nat.le_of_ble_eq_true rfl)⟩) hZ (fun r8 V5 n6 _ _ hw7 hZ => ?_)
    obtain ⟨rfl, rfl, hp11⟩ := hw7
    have b12 := hq_rng r8
    have hf3 := hp11
    rw [show (3 : Int32).toInt = 3 by decide, show (0 : Int32).toNatClampNeg = 0 by decide, show (0 : Int32).toInt = 0 by decide, List.drop_zero] at hf3
    refine lv_iconst (v := -1) hx hb dX11_isSlipAt_25 (by decide) ?_
    refine lv_icmp_ne (tgt := 33) hx hb dX11_isSlipAt_26 (by decide) (fun c13 => ?_) (fun c13 => ?_)
    · have c13 : ¬ (r8).toInt = (-1 : Int) := fun h9 => c13 (hq_eqi.mpr h9)
      refine lv_iconst (v := 0) hx hb dX11_isSlipAt_33 (by decide) ?_
      have hl14 : (0 : Int32).toInt = 0 := by decide
      exact hp_zret hx hb hr rfl hlocks hZ ⟨rfl, rfl, (by omega)⟩ dX11_isSlipAt_34
    · have c13 : (r8).toInt = (-1 : Int) := hq_eqi.mp c13
      refine lv_iconst (v := 1) hx hb dX11_isSlipAt_29 (by decide) ?_
      refine lv_goto (tgt := 34) hx hb dX11_isSlipAt_30 (by decide) ?_
      have hl15 : (1 : Int32).toInt = 1 := by decide
      exact hp_zret hx hb hr rfl hlocks hZ ⟨rfl, rfl, (by omega)⟩ dX11_isSlipAt_34

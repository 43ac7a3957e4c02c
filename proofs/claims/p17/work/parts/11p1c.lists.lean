set_option maxHeartbeats 4000000 in
set_option maxRecDepth 100000 in
theorem x_flopen (l : Launch) (D : va_G) (cs : Nat → ClassId) (B : Nat) (G : hq_G) (V : hp_V) (n : Nat) (hI : hq_I cs G V) (fl : Nat) (it : Nat) (nz : Int32) (gf : Nat → Option Nat) (hy0 : G (fl) = some (8, 4, 0, 0)) (hy1 : G (fl + 1) = some (4, 4, 4, 0)) (hy2 : G (it) = some (7, 0, 0, 0)) (hy3 : G (it + 1) = some (0, 30, 0, 0)) (hy4 : G (it + 2) = some (1, 30, 0, 0)) (hy5 : G (it + 3) = some (2, 5, 120, 0)) (hc0 : V (fl) = some (.inr (3, [.ref (fl + 1), .int (nz)]))) (hc1 : V (fl + 1) = some (.inl (cs 4, 4, .inr (.inr (.inr (.inr (gf))))))) (hgf : ∀ j, j < 4 → gf j = some (fl + 2 + 4 * j)) (hit : it = fl + 2 + 4 * nz.toNatClampNeg) (hnz : 0 ≤ nz.toInt ∧ nz.toInt < 4) : hp_M l yX3_open cX3_open 1 (some (.object "VerbSchool$Form")) ({ frames := 3, cells := 0, slots := 0, locals := 61 }) D cs B V n [.ref (fl)] (hp_QR D cs B (fun r V' n' => n = n' ∧ hq_P cs G (fun _ => true) V V' ∧ (∀ x, x ≠ it → x ≠ it + 1 → V' x = V x) ∧ V' (it) = some (.inr (2, [.ref (it + 1), .ref (it + 3), .int (0)])) ∧ V' (it + 1) = some (.inr (9, [.ref (it + 1 + 1), .int (0)])) ∧ (r = some (it)))) 0 0 := by
  refine hp_walk (R0 := RX3) (by decide) rfl ?_ (Nat.le_of_ble_eq_true rfl)
  intro p e s m below meth c ls hx hb hr hts hown hlocks hin hml hZ hl
  have hP : hq_P cs G (fun _ => true) V V := hq_P.rf hI
  have hl : lv_has ls 1 [(0, .ref (fl))] := hl
  have hb_nz := hq_rng nz
  have hfn := (hq_nn (z := nz) (by omega)).1
  have hgi : gf nz.toNatClampNeg = some it := by rw [hgf _ (by omega), hit]
  obtain ⟨z1, eV4, h8, h9⟩ := hx_oF hP.1 hy2
  obtain ⟨z2, eV5, h10, h11⟩ := hx_oT hP.1 hy3
  refine lv_aload_n hx hb dX3_open_0 rfl (lv_at hl 0 rfl) ?_
  refine hp_get (v := .int (nz)) hx hb hts hown hZ hc0 fl_X3_24 rfl dX3_open_1 ?_
  refine lv_aload_n hx hb dX3_open_4 rfl (lv_at hl 0 rfl) ?_
  refine hp_get (v := .ref (fl + 1)) hx hb hts hown hZ hc0 fl_X3_17 rfl dX3_open_5 ?_
  refine hp_alen (v := 4) hx hb hZ 4 hc1 rfl rfl dX3_open_8 ?_
  refine lv_icmp_lt (tgt := 14) hx hb dX3_open_9 (by decide) (fun c12 => ?_) (fun c12 => ?_)
  · have c12 : (nz).toInt < (4 : Int) := hq_lti.mp c12
    refine lv_aload_n hx hb dX3_open_14 rfl (lv_at hl 0 rfl) ?_
    refine hp_get (v := .ref (fl + 1)) hx hb hts hown hZ hc0 fl_X3_17 rfl dX3_open_15 ?_
    refine lv_aload_n hx hb dX3_open_18 rfl (lv_at hl 0 rfl) ?_
    refine hp_get (v := .int (nz)) hx hb hts hown hZ hc0 fl_X3_24 rfl dX3_open_19 ?_
    refine hp_aald (v := .ref (it)) hx hb hZ 4 hc1 rfl (hq_in (by omega) (by omega)) (by rw [hgi]; rfl) dX3_open_22 ?_
    refine hp_callv (hp_runV (As := []) (rest := []) hx hb hml hown hts (x_fclear l D cs B G V n hP.1 (it) (z1) (z2) hy2 hy3 hy4 hy5 eV4 eV5  ) hZ eV4 cv_X3_28 rfl rfl ⟨Nat.le_of_ble_eq_true rfl, Nat.le_of_ble_eq_true rfl⟩ rfl hl.1 rfl (Nat.le_of_ble_eq_true rfl) dX3_open_23 ⟨(Nat.le_of_ble_eq_true rfl), (Nat.le_of_ble_eq_true rfl)⟩) hZ (fun V13 n14 _ _ hw15 hZ => ?_)
    obtain ⟨rfl, hq17, fr18, ho19, ho20⟩ := hw15
    have hP := hP.trans hq17 (fun _ h => Bool.noConfusion h)
    refine lv_aload_n hx hb dX3_open_26 rfl (lv_at hl 0 rfl) ?_
    have fx21 : V13 (fl) = some (.inr (3, [.ref (fl + 1), .int (nz)])) := (fr18 (fl) (hq_tne hy0 hy2 (by simp)) (hq_tne hy0 hy3 (by simp))).trans (hc0)
    refine hp_get (v := .ref (fl + 1)) hx hb hts hown hZ fx21 fl_X3_17 rfl dX3_open_27 ?_
    refine lv_aload_n hx hb dX3_open_30 rfl (lv_at hl 0 rfl) ?_
    refine hp_get (v := .int (nz)) hx hb hts hown hZ fx21 fl_X3_24 rfl dX3_open_31 ?_
    have fx22 : V13 (fl + 1) = some (.inl (cs 4, 4, .inr (.inr (.inr (.inr (gf)))))) := (fr18 (fl + 1) (hq_tne hy1 hy2 (by simp)) (hq_tne hy1 hy3 (by simp))).trans (hc1)
    refine hp_aald (v := .ref (it)) hx hb hZ 4 fx22 rfl (hq_in (by omega) (by omega)) (by rw [hgi]; rfl) dX3_open_34 ?_
    exact hp_aret (r := some (it)) hx hb hr (Or.inl ⟨_, rfl⟩) hlocks hZ ⟨rfl, hP, (fun x8 hne0 hne1 => fr18 x8 hne0 hne1), ho19, ho20, rfl⟩ dX3_open_35
  · have c12 : ¬ (nz).toInt < (4 : Int) := fun h9 => c12 (hq_lti.mpr h9)
    exfalso
    omega

set_option maxHeartbeats 4000000 in
set_option maxRecDepth 100000 in
theorem x_flclear (l : Launch) (D : va_G) (cs : Nat → ClassId) (B : Nat) (G : hq_G) (V : hp_V) (n : Nat) (hI : hq_I cs G V) (fl : Nat) (nz : Int32) (hy0 : G (fl) = some (8, 4, 0, 0)) (hy1 : G (fl + 1) = some (4, 4, 4, 0)) (hc0 : V (fl) = some (.inr (3, [.ref (fl + 1), .int (nz)]))) : hp_M l yX3_clear cX3_clear 1 none ({ frames := 1, cells := 0, slots := 0, locals := 21 }) D cs B V n [.ref (fl)] (hp_QV D cs B (fun V' n' => n = n' ∧ hq_P cs G (fun _ => true) V V' ∧ (∀ x, x ≠ fl → V' x = V x) ∧ V' (fl) = some (.inr (3, [.ref (fl + 1), .int (0)])))) 0 0 := by
  refine hp_walk (R0 := RX3) (by decide) rfl ?_ (Nat.le_of_ble_eq_true rfl)
  intro p e s m below meth c ls hx hb hr hts hown hlocks hin hml hZ hl
  have hP : hq_P cs G (fun _ => true) V V := hq_P.rf hI
  have hl : lv_has ls 1 [(0, .ref (fl))] := hl
  have hb_nz := hq_rng nz
  refine lv_aload_n hx hb dX3_clear_0 rfl (lv_at hl 0 rfl) ?_
  refine lv_iconst (v := 0) hx hb dX3_clear_1 (by decide) ?_
  refine hp_put hx hb hts hown hZ hc0 fp_X3_24 rfl rfl (Nat.le_of_ble_eq_true rfl) dX3_clear_2 (fun V1 _ _ e2 o3 hZ => ?_)
  have e2 : V1 (fl) = some (.inr (3, [.ref (fl + 1), .int (0)])) := e2
  have hP := hP.put hy0 e2 o3 (hq_c8 hy1 (show 0 ≤ (0 : Int) by omega) (show (0 : Int) ≤ (4 : Nat) by omega) (by omega) (by first | rfl | omega)) rfl
  exact hp_vret hx hb hr hlocks hZ ⟨rfl, hP, (fun x8 hne0 => o3 x8 hne0), e2⟩ dX3_clear_5

set_option maxHeartbeats 4000000 in
set_option maxRecDepth 100000 in
theorem x_fclear (l : Launch) (D : va_G) (cs : Nat → ClassId) (B : Nat) (G : hq_G) (V : hp_V) (n : Nat) (hI : hq_I cs G V) (it : Nat) (rz : Int32) (iz : Int32) (hy0 : G (it) = some (7, 0, 0, 0)) (hy1 : G (it + 1) = some (0, 30, 0, 0)) (hy2 : G (it + 2) = some (1, 30, 0, 0)) (hy3 : G (it + 3) = some (2, 5, 120, 0)) (hc0 : V (it) = some (.inr (2, [.ref (it + 1), .ref (it + 3), .int (rz)]))) (hc1 : V (it + 1) = some (.inr (9, [.ref (it + 1 + 1), .int (iz)]))) : hp_M l yX2_clear cX2_clear 1 none ({ frames := 2, cells := 0, slots := 0, locals := 41 }) D cs B V n [.ref (it)] (hp_QV D cs B (fun V' n' => n = n' ∧ hq_P cs G (fun _ => true) V V' ∧ (∀ x, x ≠ it → x ≠ it + 1 → V' x = V x) ∧ V' (it) = some (.inr (2, [.ref (it + 1), .ref (it + 3), .int (0)])) ∧ V' (it + 1) = some (.inr (9, [.ref (it + 1 + 1), .int (0)])))) 0 0 := by
  refine hp_walk (R0 := RX2) (by decide) rfl ?_ (Nat.le_of_ble_eq_true rfl)
  intro p e s m below meth c ls hx hb hr hts hown hlocks hin hml hZ hl
  have hP : hq_P cs G (fun _ => true) V V := hq_P.rf hI
  have hl : lv_has ls 1 [(0, .ref (it))] := hl
  have hb_rz := hq_rng rz
  have hb_iz := hq_rng iz
  refine lv_aload_n hx hb dX2_clear_0 rfl (lv_at hl 0 rfl) ?_
  refine hp_get (v := .ref (it + 1)) hx hb hts hown hZ hc0 fl_X2_14 rfl dX2_clear_1 ?_
  refine hp_callv (hp_runV (As := []) (rest := []) hx hb hml hown hts (x_clear l D cs B G V n hP.1 (it + 1) (30) (iz) hy1 hy2 hc1  (by decide)) hZ hc1 cv_X2_24 rfl rfl ⟨Nat.le_of_ble_eq_true rfl, Nat.le_of_ble_eq_true rfl⟩ rfl hl.1 rfl (Nat.le_of_ble_eq_true rfl) dX2_clear_4 ⟨(Nat.le_of_ble_eq_true rfl), (Nat.le_of_ble_eq_true rfl)⟩) hZ (fun V1 n2 _ _ hw3 hZ => ?_)
  obtain ⟨rfl, hq5, fr6, ho7⟩ := hw3
  have hP := hP.trans hq5 (fun _ h => Bool.noConfusion h)
  refine lv_aload_n hx hb dX2_clear_7 rfl (lv_at hl 0 rfl) ?_
  refine lv_iconst (v := 0) hx hb dX2_clear_8 (by decide) ?_
  have fx8 : V1 (it) = some (.inr (2, [.ref (it + 1), .ref (it + 3), .int (rz)])) := (fr6 (it) (hq_tne hy0 hy1 (by simp))).trans (hc0)
  refine hp_put hx hb hts hown hZ fx8 fp_X2_27 rfl rfl (Nat.le_of_ble_eq_true rfl) dX2_clear_9 (fun V9 _ _ e10 o11 hZ => ?_)
  have e10 : V9 (it) = some (.inr (2, [.ref (it + 1), .ref (it + 3), .int (0)])) := e10
  have hP := hP.put hy0 e10 o11 (hq_c7 hy1 hy3 (show 0 ≤ (0 : Int) by omega) (show (0 : Int) ≤ 120 by omega) (by first | rfl | omega) (by first | rfl | omega)) rfl
  have fx12 : V9 (it + 1) = some (.inr (9, [.ref (it + 2), .int (0)])) := (o11 (it + 1) (hq_tne hy1 hy0 (by simp))).trans (ho7)
  exact hp_vret hx hb hr hlocks hZ ⟨rfl, hP, (fun x8 hne0 hne1 => (o11 x8 hne0).trans (fr6 x8 hne1)), e10, fx12⟩ dX2_clear_12

set_option maxHeartbeats 4000000 in
set_option maxRecDepth 100000 in
theorem x_flopen (l : Launch) (D : va_G) (cs : Nat → ClassId) (B : Nat) (G : hq_G) (V : hp_V) (n : Nat) (hI : hq_I cs G V) (fl : Nat) (it : Nat) (nz : Int32) (gf : Nat → Option Nat) (hy0 : G (fl) = some (8, 4, 0, 0)) (hy1 : G (fl + 1) = some (4, 4, 4, 0)) (hy2 : G (it) = some (7, 0, 0, 0)) (hy3 : G (it + 1) = some (0, 30, 0, 0)) (hy4 : G (it + 2) = some (1, 30, 0, 0)) (hy5 : G (it + 3) = some (2, 5, 120, 0)) (hc0 : V (fl) = some (.inr (3, [.ref (fl + 1), .int (nz)]))) (hc1 : V (fl + 1) = some (.inl (cs 4, 4, .inr (.inr (.inr (.inr (gf))))))) (hgf : ∀ j, j < 4 → gf j = some (fl + 2 + 4 * j)) (hit : it = fl + 2 + 4 * nz.toNatClampNeg) (hnz : 0 ≤ nz.toInt ∧ nz.toInt < 4) : hp_M l yX3_open cX3_open 1 (some (.object "VerbSchool$Form")) ({ frames := 3, cells := 0, slots := 0, locals := 61 }) D cs B V n [.ref (fl)] (hp_QR D cs B (fun r V' n' => n = n' ∧ hq_P cs G (fun _ => true) V V' ∧ (∀ x, x ≠ it → x ≠ it + 1 → V' x = V x) ∧ V' (it) = some (.inr (2, [.ref (it + 1), .ref (it + 3), .int (0)])) ∧ V' (it + 1) = some (.inr (9, [.ref (it + 1 + 1), .int (0)])) ∧ (r = some (it)))) 0 0 := by
  refine hp_walk (R0 := RX3) (by decide) rfl ?_ (Nat.le_of_ble_eq_true rfl)
  intro p e s m below meth c ls hx hb hr hts hown hlocks hin hml hZ hl
  have hP : hq_P cs G (fun _ => true) V V := hq_P.rf hI
  have hl : lv_has ls 1 [(0, .ref (fl))] := hl
  have hb_nz := hq_rng nz
  have hfn := (hq_nn (z := nz) (by omega)).1
  have hgi : gf nz.toNatClampNeg = some it := by rw [hgf _ (by omega), hit]
  obtain ⟨z1, eV4, h8, h9⟩ := hx_oF hP.1 hy2
  obtain ⟨z2, eV5, h10, h11⟩ := hx_oT hP.1 hy3
  refine lv_aload_n hx hb dX3_open_0 rfl (lv_at hl 0 rfl) ?_
  refine hp_get (v := .int (nz)) hx hb hts hown hZ hc0 fl_X3_24 rfl dX3_open_1 ?_
  refine lv_aload_n hx hb dX3_open_4 rfl (lv_at hl 0 rfl) ?_
  refine hp_get (v := .ref (fl + 1)) hx hb hts hown hZ hc0 fl_X3_17 rfl dX3_open_5 ?_
  refine hp_alen (v := 4) hx hb hZ 4 hc1 rfl rfl dX3_open_8 ?_
  refine lv_icmp_lt (tgt := 14) hx hb dX3_open_9 (by decide) (fun c12 => ?_) (fun c12 => ?_)
  · have c12 : (nz).toInt < (4 : Int) := hq_lti.mp c12
    refine lv_aload_n hx hb dX3_open_14 rfl (lv_at hl 0 rfl) ?_
    refine hp_get (v := .ref (fl + 1)) hx hb hts hown hZ hc0 fl_X3_17 rfl dX3_open_15 ?_
    refine lv_aload_n hx hb dX3_open_18 rfl (lv_at hl 0 rfl) ?_
    refine hp_get (v := .int (nz)) hx hb hts hown hZ hc0 fl_X3_24 rfl dX3_open_19 ?_
    refine hp_aald (v := .ref (it)) hx hb hZ 4 hc1 rfl (hq_in (by omega) (by omega)) (by rw [hgi]; rfl) dX3_open_22 ?_
    refine hp_callv (hp_runV (As := []) (rest := []) hx hb hml hown hts (x_fclear l D cs B G V n hP.1 (it) (z1) (z2) hy2 hy3 hy4 hy5 eV4 eV5  ) hZ eV4 cv_X3_28 rfl rfl ⟨Nat.le_of_ble_eq_true rfl, Nat.le_of_ble_eq_true rfl⟩ rfl hl.1 rfl (Nat.le_of_ble_eq_true rfl) dX3_open_23 ⟨(Nat.le_of_ble_eq_true rfl), (Nat.le_of_ble_eq_true rfl)⟩) hZ (fun V13 n14 _ _ hw15 hZ => ?_)
    obtain ⟨rfl, hq17, fr18, ho19, ho20⟩ := hw15
    have hP := hP.trans hq17 (fun _ h => Bool.noConfusion h)
    refine lv_aload_n hx hb dX3_open_26 rfl (lv_at hl 0 rfl) ?_
    have fx21 : V13 (fl) = some (.inr (3, [.ref (fl + 1), .int (nz)])) := (fr18 (fl) (hq_tne hy0 hy2 (by simp)) (hq_tne hy0 hy3 (by simp))).trans (hc0)
    refine hp_get (v := .ref (fl + 1)) hx hb hts hown hZ fx21 fl_X3_17 rfl dX3_open_27 ?_
    refine lv_aload_n hx hb dX3_open_30 rfl (lv_at hl 0 rfl) ?_
    refine hp_get (v := .int (nz)) hx hb hts hown hZ fx21 fl_X3_24 rfl dX3_open_31 ?_
    have fx22 : V13 (fl + 1) = some (.inl (cs 4, 4, .inr (.inr (.inr (.inr (gf)))))) := (fr18 (fl + 1) (hq_tne hy1 hy2 (by simp)) (hq_tne hy1 hy3 (by simp))).trans (hc1)
    refine hp_aald (v := .ref (it)) hx hb hZ 4 fx22 rfl (hq_in (by omega) (by omega)) (by rw [hgi]; rfl) dX3_open_34 ?_
    exact hp_aret (r := some (it)) hx hb hr (Or.inl ⟨_, rfl⟩) hlocks hZ ⟨rfl, hP, (fun x8 hne0 hne1 => fr18 x8 hne0 hne1), ho19, ho20, rfl⟩ dX3_open_35
  · have c12 : ¬ (nz).toInt < (4 : Int) := fun h9 => c12 (hq_lti.mpr h9)
    exfalso
    omega

set_option maxHeartbeats 4000000 in
set_option maxRecDepth 100000 in
theorem x_flkeep (l : Launch) (D : va_G) (cs : Nat → ClassId) (B : Nat) (G : hq_G) (V : hp_V) (n : Nat) (hI : hq_I cs G V) (fl : Nat) (nz : Int32) (gf : Nat → Option Nat) (hy0 : G (fl) = some (8, 4, 0, 0)) (hy1 : G (fl + 1) = some (4, 4, 4, 0)) (hc0 : V (fl) = some (.inr (3, [.ref (fl + 1), .int (nz)]))) (hc1 : V (fl + 1) = some (.inl (cs 4, 4, .inr (.inr (.inr (.inr (gf))))))) (hnz : 0 ≤ nz.toInt ∧ nz.toInt < 4) : hp_M l yX3_keep cX3_keep 1 none ({ frames := 1, cells := 0, slots := 0, locals := 21 }) D cs B V n [.ref (fl)] (hp_QV D cs B (fun V' n' => n = n' ∧ hq_P cs G (fun _ => true) V V' ∧ (∀ x, x ≠ fl → V' x = V x) ∧ (∃ nz1 : Int32, V' (fl) = some (.inr (3, [.ref (fl + 1), .int (nz1)])) ∧ (nz1.toInt = nz.toInt + 1)))) 0 0 := by
  refine hp_walk (R0 := RX3) (by decide) rfl ?_ (Nat.le_of_ble_eq_true rfl)
  intro p e s m below meth c ls hx hb hr hts hown hlocks hin hml hZ hl
  have hP : hq_P cs G (fun _ => true) V V := hq_P.rf hI
  have hl : lv_has ls 1 [(0, .ref (fl))] := hl
  have hb_nz := hq_rng nz
  refine lv_aload_n hx hb dX3_keep_0 rfl (lv_at hl 0 rfl) ?_
  refine hp_get (v := .int (nz)) hx hb hts hown hZ hc0 fl_X3_24 rfl dX3_keep_1 ?_
  refine lv_aload_n hx hb dX3_keep_4 rfl (lv_at hl 0 rfl) ?_
  refine hp_get (v := .ref (fl + 1)) hx hb hts hown hZ hc0 fl_X3_17 rfl dX3_keep_5 ?_
  refine hp_alen (v := 4) hx hb hZ 4 hc1 rfl rfl dX3_keep_8 ?_
  refine lv_icmp_ge (tgt := 22) hx hb dX3_keep_9 (by decide) (fun c1 => ?_) (fun c1 => ?_)
  · have c1 : (4 : Int) ≤ (nz).toInt := hq_lei.mp c1
    exfalso
    omega
  · have c1 : ¬ (4 : Int) ≤ (nz).toInt := fun h9 => c1 (hq_lei.mpr h9)
    refine lv_aload_n hx hb dX3_keep_12 rfl (lv_at hl 0 rfl) ?_
    refine lv_dup hx hb dX3_keep_13 rfl ?_
    refine hp_get (v := .int (nz)) hx hb hts hown hZ hc0 fl_X3_24 rfl dX3_keep_14 ?_
    refine lv_iconst (v := 1) hx hb dX3_keep_17 (by decide) ?_
    refine lv_iadd hx hb dX3_keep_18 ?_
    refine lv_topi (fun y2 ey3 => ?_)
    obtain ⟨k4, hk5, b6, b7⟩ := hq_add (nz) (1)
    rw [← ey3] at hk5 b6 b7
    have hk5 : (y2).toInt = (nz).toInt + (1 : Int) + k4 * 4294967296 := hk5
    obtain rfl : k4 = 0 := by omega
    refine hp_put hx hb hts hown hZ hc0 fp_X3_24 rfl rfl (Nat.le_of_ble_eq_true rfl) dX3_keep_19 (fun V8 _ _ e9 o10 hZ => ?_)
    have e9 : V8 (fl) = some (.inr (3, [.ref (fl + 1), .int (y2)])) := e9
    have hP := hP.put hy0 e9 o10 (hq_c8 hy1 (show 0 ≤ (y2).toInt by omega) (show (y2).toInt ≤ (4 : Nat) by omega) (by omega) (by first | rfl | omega)) rfl
    exact hp_vret hx hb hr hlocks hZ ⟨rfl, hP, (fun x8 hne0 => o10 x8 hne0), y2, e9, by omega⟩ dX3_keep_22

set_option maxHeartbeats 4000000 in
set_option maxRecDepth 100000 in
theorem x_addLine (l : Launch) (D : va_G) (cs : Nat → ClassId) (B : Nat) (G : hq_G) (V : hp_V) (n : Nat) (hI : hq_I cs G V) (it : Nat) (k : Int32) (rz : Int32) (rwf : Nat → Int32) (hy0 : G (it) = some (7, 0, 0, 0)) (hy1 : G (it + 1) = some (0, 30, 0, 0)) (hy2 : G (it + 2) = some (1, 30, 0, 0)) (hy3 : G (it + 3) = some (2, 5, 120, 0)) (hc0 : V (it) = some (.inr (2, [.ref (it + 1), .ref (it + 3), .int (rz)]))) (hc1 : V (it + 3) = some (.inl (cs 1, 120, .inl (rwf)))) (hrz : 0 ≤ rz.toInt ∧ rz.toInt ≤ 120) : hp_M l yX2_addLine cX2_addLine 2 none ({ frames := 1, cells := 0, slots := 0, locals := 21 }) D cs B V n [.ref (it), .int (k)] (hp_QV D cs B (fun V' n' => n = n' ∧ hq_P cs G (fun _ => true) V V' ∧ (∀ x, x ≠ it → x ≠ it + 3 → V' x = V x) ∧ (∃ rz1 : Int32, ∃ rw1 : Nat → Int32, V' (it) = some (.inr (2, [.ref (it + 1), .ref (it + 3), .int (rz1)])) ∧ V' (it + 3) = some (.inl (cs 1, 120, .inl (rw1))) ∧ (0 ≤ rz1.toInt ∧ rz1.toInt ≤ 120)))) 0 0 := by
  refine hp_walk (R0 := RX2) (by decide) rfl ?_ (Nat.le_of_ble_eq_true rfl)
  intro p e s m below meth c ls hx hb hr hts hown hlocks hin hml hZ hl
  have hP : hq_P cs G (fun _ => true) V V := hq_P.rf hI
  have hl : lv_has ls 2 [(0, .ref (it)), (1, .int (k))] := hl
  have hb_k := hq_rng k
  have hb_rz := hq_rng rz
  have hf_1 := hq_rg2 hI hy3 hc1
  refine lv_aload_n hx hb dX2_addLine_0 rfl (lv_at hl 0 rfl) ?_
  refine hp_get (v := .int (rz)) hx hb hts hown hZ hc0 fl_X2_27 rfl dX2_addLine_1 ?_
  refine lv_aload_n hx hb dX2_addLine_4 rfl (lv_at hl 0 rfl) ?_
  refine hp_get (v := .ref (it + 3)) hx hb hts hown hZ hc0 fl_X2_20 rfl dX2_addLine_5 ?_
  refine hp_alen (v := 120) hx hb hZ 1 hc1 rfl rfl dX2_addLine_8 ?_
  refine lv_icmp_ge (tgt := 32) hx hb dX2_addLine_9 (by decide) (fun c1 => ?_) (fun c1 => ?_)
  · have c1 : (120 : Int) ≤ (rz).toInt := hq_lei.mp c1
    exact hp_vret hx hb hr hlocks hZ ⟨rfl, hP, (fun x8 hne0 hne1 => rfl), rz, rwf, hc0, hc1, by omega⟩ dX2_addLine_32
  · have c1 : ¬ (120 : Int) ≤ (rz).toInt := fun h9 => c1 (hq_lei.mpr h9)
    refine lv_aload_n hx hb dX2_addLine_12 rfl (lv_at hl 0 rfl) ?_
    refine hp_get (v := .ref (it + 3)) hx hb hts hown hZ hc0 fl_X2_20 rfl dX2_addLine_13 ?_
    refine lv_aload_n hx hb dX2_addLine_16 rfl (lv_at hl 0 rfl) ?_
    refine hp_get (v := .int (rz)) hx hb hts hown hZ hc0 fl_X2_27 rfl dX2_addLine_17 ?_
    refine lv_iload_n hx hb dX2_addLine_20 rfl (lv_at hl 1 rfl) ?_
    refine hp_iast hx hb hZ hc1 (hq_in (by omega) (by omega)) dX2_addLine_21 (fun V2 _ _ e3 o4 hZ => ?_)
    have e3 : V2 (it + 3) = some (.inl (cs 1, 120, .inl (upd (rwf) ((rz : Int32).toNatClampNeg) (k)))) := e3
    have hP := hP.put hy3 e3 o4 (hq_c2 (by omega) (hq_upd hf_1 (hq_rng _))) rfl
    obtain ⟨g5, ge6⟩ : ∃ g9 : Nat → Int32, g9 = upd (rwf) ((rz : Int32).toNatClampNeg) (k) := ⟨_, rfl⟩
    have fx7 : V2 (it + 3) = some (.inl (cs 1, 120, .inl (g5))) := by rw [ge6]; exact e3
    have hf8 := hq_rg2 hP.1 hy3 fx7
    refine lv_aload_n hx hb dX2_addLine_22 rfl (lv_at hl 0 rfl) ?_
    refine lv_dup hx hb dX2_addLine_23 rfl ?_
    have fx9 : V2 (it) = some (.inr (2, [.ref (it + 1), .ref (it + 3), .int (rz)])) := (o4 (it) (hq_tne hy0 hy3 (by simp))).trans (hc0)
    refine hp_get (v := .int (rz)) hx hb hts hown hZ fx9 fl_X2_27 rfl dX2_addLine_24 ?_
    refine lv_iconst (v := 1) hx hb dX2_addLine_27 (by decide) ?_
    refine lv_iadd hx hb dX2_addLine_28 ?_
    refine lv_topi (fun y10 ey11 => ?_)
    obtain ⟨k12, hk13, b14, b15⟩ := hq_add (rz) (1)
    rw [← ey11] at hk13 b14 b15
    have hk13 : (y10).toInt = (rz).toInt + (1 : Int) + k12 * 4294967296 := hk13
    obtain rfl : k12 = 0 := by omega
    refine hp_put hx hb hts hown hZ fx9 fp_X2_27 rfl rfl (Nat.le_of_ble_eq_true rfl) dX2_addLine_29 (fun V16 _ _ e17 o18 hZ => ?_)
    have e17 : V16 (it) = some (.inr (2, [.ref (it + 1), .ref (it + 3), .int (y10)])) := e17
    have hP := hP.put hy0 e17 o18 (hq_c7 hy1 hy3 (show 0 ≤ (y10).toInt by omega) (show (y10).toInt ≤ 120 by omega) (by first | rfl | omega) (by first | rfl | omega)) rfl
    have fx19 : V16 (it + 3) = some (.inl (cs 1, 120, .inl (g5))) := (o18 (it + 3) (hq_tne hy3 hy0 (by simp))).trans (fx7)
    exact hp_vret hx hb hr hlocks hZ ⟨rfl, hP, (fun x8 hne0 hne1 => (o18 x8 hne0).trans (o4 x8 hne1)), y10, g5, e17, fx19, by omega⟩ dX2_addLine_32

set_option maxHeartbeats 4000000 in
set_option maxRecDepth 100000 in
theorem x_addBits (l : Launch) (D : va_G) (cs : Nat → ClassId) (B : Nat) (G : hq_G) (V : hp_V) (n : Nat) (hI : hq_I cs G V) (it : Nat) (bits : Int64) (rz : Int32) (rwf : Nat → Int32) (hy0 : G (it) = some (7, 0, 0, 0)) (hy1 : G (it + 1) = some (0, 30, 0, 0)) (hy2 : G (it + 2) = some (1, 30, 0, 0)) (hy3 : G (it + 3) = some (2, 5, 120, 0)) (hc0 : V (it) = some (.inr (2, [.ref (it + 1), .ref (it + 3), .int (rz)]))) (hc1 : V (it + 3) = some (.inl (cs 1, 120, .inl (rwf)))) (hrz : 0 ≤ rz.toInt ∧ rz.toInt ≤ 120) : hp_M l yX2_addBits cX2_addBits 4 none ({ frames := 2, cells := 0, slots := 0, locals := 42 }) D cs B V n [.ref (it), .long (bits)] (hp_QV D cs B (fun V' n' => n = n' ∧ hq_P cs G (fun _ => true) V V' ∧ (∀ x, x ≠ it → x ≠ it + 3 → V' x = V x) ∧ (∃ rz1 : Int32, ∃ rw1 : Nat → Int32, V' (it) = some (.inr (2, [.ref (it + 1), .ref (it + 3), .int (rz1)])) ∧ V' (it + 3) = some (.inl (cs 1, 120, .inl (rw1))) ∧ (0 ≤ rz1.toInt ∧ rz1.toInt ≤ 120)))) 0 0 := by
  refine hp_walk (R0 := RX2) (by decide) rfl ?_ (Nat.le_of_ble_eq_true rfl)
  intro p e s m below meth c ls hx hb hr hts hown hlocks hin hml hZ hl
  have hP : hq_P cs G (fun _ => true) V V := hq_P.rf hI
  have hl : lv_has ls 4 [(0, .ref (it)), (1, .long (bits))] := hl
  have hb_rz := hq_rng rz
  have hf_1 := hq_rg2 hI hy3 hc1
  refine lv_iconst (v := 0) hx hb dX2_addBits_0 (by decide) ?_
  refine lv_istore_n (lv' := [(3, .int (0)), (0, .ref (it)), (1, .long (bits))]) hx hb dX2_addBits_1 rfl hl (by decide) rfl (fun ls hl => ?_)
  have hl3 : (0 : Int32).toInt = 0 := by decide
  suffices lp2 : ∀ (k9 : Nat) (V9 : hp_V) (H9 : Heap) (locs9 : List Loc) (ls : Array Slot) (i : Int32) (rz9 : Int32) (rw9 : Nat → Int32), (100 - i.toInt).toNat = k9 → hp_Z D cs B s V9 H9 n locs9 → hq_P cs G (fun _ => true) V V9 → V9 (it) = some (.inr (2, [.ref (it + 1), .ref (it + 3), .int (rz9)])) → V9 (it + 3) = some (.inl (cs 1, 120, .inl (rw9))) → (∀ x, x ≠ it → x ≠ it + 3 → V9 x = V x) → 0 ≤ i.toInt → i.toInt ≤ 60 → 0 ≤ rz9.toInt ∧ rz9.toInt ≤ 120 → lv_has ls 4 [(3, .int (i)), (0, .ref (it)), (1, .long (bits))] → W p l e ({ frames := 2, cells := 0, slots := 0, locals := 42 }) s m ([.ref (it), .long (bits)] : List Value).toArray below meth c H9 locs9 0 0 (MQ below (hp_QV D cs B (fun V' n' => n = n' ∧ hq_P cs G (fun _ => true) V V' ∧ (∀ x, x ≠ it → x ≠ it + 3 → V' x = V x) ∧ (∃ rz1 : Int32, ∃ rw1 : Nat → Int32, V' (it) = some (.inr (2, [.ref (it + 1), .ref (it + 3), .int (rz1)])) ∧ V' (it + 3) = some (.inl (cs 1, 120, .inl (rw1))) ∧ (0 ≤ rz1.toInt ∧ rz1.toInt ≤ 120)))) ([.ref (it), .long (bits)] : List Value).toArray s 0 0 (hp_F B)) (F0 m 2 ls []) from lp2 _ _ _ _ ls (0) (rz) (rwf) rfl hZ hP hc0 hc1 (fun x8 hne0 hne1 => rfl) (by omega) (by omega) (by omega) (lv_sub hl [0, 1, 2] rfl)
  intro k9
  induction k9 using Nat.strongRecOn with
  | _ k9 ih2 =>
    intro V9 H9 locs9 ls i  rz9 rw9 hk2 hZ hP ho1 ho2 fr2  hv4 hv5 hv6 hl
    have hb_i := hq_rng i
    have hb_rz9 := hq_rng rz9
    have hf7 := hq_rg2 hP.1 hy3 ho2
    refine lv_iload_n hx hb dX2_addBits_2 rfl (lv_at hl 0 rfl) ?_
    refine lv_bipush (v := 60) hx hb dX2_addBits_3 (by decide) ?_
    refine lv_icmp_ge (tgt := 29) hx hb dX2_addBits_5 (by decide) (fun c8 => ?_) (fun c8 => ?_)
    · have c8 : (60 : Int) ≤ (i).toInt := hq_lei.mp c8
      exact hp_vret hx hb hr hlocks hZ ⟨rfl, hP, (fun x8 hne0 hne1 => fr2 x8 hne0 hne1), rz9, rw9, ho1, ho2, by omega⟩ dX2_addBits_29
    · have c8 : ¬ (60 : Int) ≤ (i).toInt := fun h9 => c8 (hq_lei.mpr h9)
      refine lv_lload_n hx hb dX2_addBits_8 rfl (lv_at hl 2 rfl) ?_
      refine lv_iload_n hx hb dX2_addBits_9 rfl (lv_at hl 0 rfl) ?_
      refine lv_lushr (v := ((bits : Int64).toUInt64 >>> ((i : Int32).toInt64.toUInt64 &&& Int64.toUInt64 63)).toInt64) hx hb dX2_addBits_10 rfl ?_
      refine lv_topl (fun y9 ey10 => ?_)
      refine lv_lconst (v := 1) hx hb dX2_addBits_11 (by decide) ?_
      refine lv_land hx hb dX2_addBits_12 ?_
      refine lv_topl (fun y11 ey12 => ?_)
      refine lv_lconst (v := 0) hx hb dX2_addBits_13 (by decide) ?_
      refine W.lcmp hx hb dX2_addBits_14 ?_
      refine lv_topi (fun y13 ey14 => ?_)
      have b15 := hq_rng y13
      refine lv_if_eq (tgt := 23) hx hb dX2_addBits_15 (by decide) (fun c16 => ?_) (fun c16 => ?_)
      · have c16 : (y13).toInt = (0 : Int) := hq_eqi.mp c16
        obtain ⟨y17, ey18⟩ : ∃ y : Int32, y = i + (1) := ⟨_, rfl⟩
        obtain ⟨k19, hk20, b21, b22⟩ := hq_add (i) (1)
        rw [← ey18] at hk20 b21 b22
        have hk20 : (y17).toInt = (i).toInt + (1) + k19 * 4294967296 := hk20
        obtain rfl : k19 = 0 := by omega
        refine lv_iinc (v := y17) (lv' := [(3, .int (y17)), (0, .ref (it)), (1, .long (bits))]) hx hb dX2_addBits_23 hl (k := 0) rfl (by rw [ey18]; rfl) (by decide) rfl (fun ls hl => ?_)
        refine lv_goto (tgt := 2) hx hb dX2_addBits_26 (by decide) ?_
        exact ih2 _ (by omega) _ _ _ ls (y17) (rz9) (rw9) rfl hZ hP ho1 ho2 (fun x8 hne0 hne1 => fr2 x8 hne0 hne1) (by omega) (by omega) (by omega) (lv_sub hl [0, 1, 2] rfl)
      · have c16 : ¬ (y13).toInt = (0 : Int) := fun h9 => c16 (hq_eqi.mpr h9)
        refine lv_aload_n hx hb dX2_addBits_18 rfl (lv_at hl 1 rfl) ?_
        refine lv_iload_n hx hb dX2_addBits_19 rfl (lv_at hl 0 rfl) ?_
        refine hp_callv (hp_runV (As := [.int (i)]) (rest := []) hx hb hml hown hts (x_addLine l D cs B G V9 n hP.1 (it) (i) (rz9) (rw9) hy0 hy1 hy2 hy3 ho1 ho2  (by omega)) hZ ho1 cv_X2_31 rfl rfl ⟨Nat.le_of_ble_eq_true rfl, Nat.le_of_ble_eq_true rfl⟩ rfl hl.1 rfl (Nat.le_of_ble_eq_true rfl) dX2_addBits_20 ⟨(Nat.le_of_ble_eq_true rfl), (Nat.le_of_ble_eq_true rfl)⟩) hZ (fun V23 n24 _ _ hw25 hZ => ?_)
        obtain ⟨rfl, hq27, fr28, z29, u30, ho31, ho32, hp33⟩ := hw25
        have b34 := hq_rng z29
        have hP := hP.trans hq27 (fun _ h => Bool.noConfusion h)
        have hf35 := hq_rg2 hP.1 hy3 ho32
        obtain ⟨y36, ey37⟩ : ∃ y : Int32, y = i + (1) := ⟨_, rfl⟩
        obtain ⟨k38, hk39, b40, b41⟩ := hq_add (i) (1)
        rw [← ey37] at hk39 b40 b41
        have hk39 : (y36).toInt = (i).toInt + (1) + k38 * 4294967296 := hk39
        obtain rfl : k38 = 0 := by omega
        refine lv_iinc (v := y36) (lv' := [(3, .int (y36)), (0, .ref (it)), (1, .long (bits))]) hx hb dX2_addBits_23 hl (k := 0) rfl (by rw [ey37]; rfl) (by decide) rfl (fun ls hl => ?_)
        refine lv_goto (tgt := 2) hx hb dX2_addBits_26 (by decide) ?_
        exact ih2 _ (by omega) _ _ _ ls (y36) (z29) (u30) rfl hZ hP ho31 ho32 (fun x8 hne0 hne1 => (fr28 x8 hne0 hne1).trans (fr2 x8 hne0 hne1)) (by omega) (by omega) (by omega) (lv_sub hl [0, 1, 2] rfl)

set_option maxHeartbeats 4000000 in
set_option maxRecDepth 100000 in
theorem x_find (l : Launch) (D : va_G) (cs : Nat → ClassId) (B : Nat) (G : hq_G) (V : hp_V) (n : Nat) (hI : hq_I cs G V) (fl : Nat) (kb : Nat) (L : List (List Int)) (ask : List Int) (nz : Int32) (pz : Int32) (pf : Nat → Int32) (gf : Nat → Option Nat) (hc0 : V (fl) = some (.inr (3, [.ref (fl + 1), .int (nz)]))) (hc1 : V (fl + 1) = some (.inl (cs 4, 4, .inr (.inr (.inr (.inr (gf))))))) (hc2 : V (kb) = some (.inr (9, [.ref (kb + 1), .int (pz)]))) (hc3 : V (kb + 1) = some (.inl (cs 0, 4000, .inl (pf)))) (hp0 : hx_FM cs V fl L) (hgf : ∀ j, j < 4 → gf j = some (fl + 2 + 4 * j)) (hask : sp_rp pz pf ask) (hnz : nz.toInt = (L.length : Int)) (hl4 : L.length ≤ 4) (hL30 : ∀ u ∈ L, u.length ≤ 30) (hpz : pz.toInt ≤ 4000) : hp_M l yX3_find cX3_find 3 (some .int) ({ frames := 3, cells := 0, slots := 0, locals := 65 }) D cs B V n [.ref (fl), .ref (kb)] (hp_QI D cs B (fun r V' n' => n = n' ∧ V = V' ∧ ((r.toInt = -1 ∧ ¬ ask ∈ L) ∨ (0 ≤ r.toInt ∧ r.toInt < nz.toInt ∧ ask ∈ L)))) 0 0 := by
  refine hp_walk (R0 := RX3) (by decide) rfl ?_ (Nat.le_of_ble_eq_true rfl)
  intro p e s m below meth c ls hx hb hr hts hown hlocks hin hml hZ hl
  have hP : hq_I cs G V := hI
  have hl : lv_has ls 3 [(0, .ref (fl)), (1, .ref (kb))] := hl
  have hb_nz := hq_rng nz
  have hb_pz := hq_rng pz
  have ha1 := hask.1
  refine lv_iconst (v := 0) hx hb dX3_find_0 (by decide) ?_
  refine lv_istore_n (lv' := [(2, .int (0)), (0, .ref (fl)), (1, .ref (kb))]) hx hb dX3_find_1 rfl hl (by decide) rfl (fun ls hl => ?_)
  have hl1 : (0 : Int32).toInt = 0 := by decide
  suffices lp2 : ∀ (k9 : Nat) (H9 : Heap) (locs9 : List Loc) (ls : Array Slot) (i : Int32), (100 - i.toInt).toNat = k9 → hp_Z D cs B s V H9 n locs9 → hq_I cs G V → 0 ≤ i.toInt → i.toInt ≤ (L.length : Int) → (∀ (j : Nat) (u : List Int), (j : Int) < i.toInt → L[j]? = some u → ¬ u = ask) → lv_has ls 3 [(2, .int (i)), (0, .ref (fl)), (1, .ref (kb))] → W p l e ({ frames := 3, cells := 0, slots := 0, locals := 65 }) s m ([.ref (fl), .ref (kb)] : List Value).toArray below meth c H9 locs9 0 0 (MQ below (hp_QI D cs B (fun r V' n' => n = n' ∧ V = V' ∧ ((r.toInt = -1 ∧ ¬ ask ∈ L) ∨ (0 ≤ r.toInt ∧ r.toInt < nz.toInt ∧ ask ∈ L)))) ([.ref (fl), .ref (kb)] : List Value).toArray s 0 0 (hp_F B)) (F0 m 2 ls []) from lp2 _ _ _ ls (0) rfl hZ hP (by omega) (by omega) (fun j u hj => by omega) (lv_sub hl [0, 1, 2] rfl)
  intro k9
  induction k9 using Nat.strongRecOn with
  | _ k9 ih2 =>
    intro H9 locs9 ls i   hk2 hZ hP    hv2 hv3 hno9 hl
    have hb_i := hq_rng i
    refine lv_iload_n hx hb dX3_find_2 rfl (lv_at hl 0 rfl) ?_
    refine lv_aload_n hx hb dX3_find_3 rfl (lv_at hl 1 rfl) ?_
    refine hp_get (v := .int (nz)) hx hb hts hown hZ hc0 fl_X3_24 rfl dX3_find_4 ?_
    refine lv_icmp_ge (tgt := 34) hx hb dX3_find_7 (by decide) (fun c4 => ?_) (fun c4 => ?_)
    · have c4 : (nz).toInt ≤ (i).toInt := hq_lei.mp c4
      refine lv_iconst (v := -1) hx hb dX3_find_34 (by decide) ?_
      have hl5 : (-1 : Int32).toInt = -1 := by decide
      exact hp_iret hx hb hr hlocks hZ ⟨rfl, rfl, Or.inl ⟨by omega, fun g9 => by obtain ⟨j9, hj9⟩ := List.mem_iff_getElem?.mp g9; have h9 := (List.getElem?_eq_some_iff.mp hj9).1; exact hno9 j9 ask (by omega) hj9 rfl⟩⟩ dX3_find_35
    · have c4 : ¬ (nz).toInt ≤ (i).toInt := fun h9 => c4 (hq_lei.mpr h9)
      refine lv_aload_n hx hb dX3_find_10 rfl (lv_at hl 1 rfl) ?_
      refine hp_get (v := .ref (fl + 1)) hx hb hts hown hZ hc0 fl_X3_17 rfl dX3_find_11 ?_
      refine lv_iload_n hx hb dX3_find_14 rfl (lv_at hl 0 rfl) ?_
      have hin := (hq_nn (z := i) (by omega)).1
      obtain ⟨u9, hu9⟩ : ∃ t, L[i.toNatClampNeg]? = some t := ⟨_, List.getElem?_eq_getElem (by omega)⟩
      obtain ⟨it9, hit9⟩ : ∃ t, t = fl + 2 + 4 * i.toNatClampNeg := ⟨_, rfl⟩
      obtain ⟨rz9, iz9, if9, hw1, hw2, hw3, hw4⟩ := (show hx_FW cs V it9 u9 by rw [hit9]; exact hp0 _ _ hu9)
      have hw41 := hw4.1
      have hu30 := hL30 u9 (List.mem_iff_getElem?.mpr ⟨_, hu9⟩)
      have hgi9 : gf i.toNatClampNeg = some it9 := by rw [hgf _ (by omega), hit9]
      refine hp_aald (v := .ref (it9)) hx hb hZ 4 hc1 rfl (hq_in (by omega) (by omega)) (by rw [hgi9]; rfl) dX3_find_15 ?_
      refine hp_get (v := .ref (it9 + 1)) hx hb hts hown hZ hw1 fl_X3_31 rfl dX3_find_16 ?_
      refine lv_aload_n hx hb dX3_find_19 rfl (lv_at hl 2 rfl) ?_
      refine hp_calli (hp_runV (As := [.ref (kb)]) (rest := []) hx hb hml hown hts (x_same l D cs B G V n hP (it9 + 1) (30) (kb) (4000) (iz9) (if9) (pz) (pf)  hw2 hw3 hc2 hc3  (by omega) (by omega) (by decide) (by decide)) hZ hw2 cv_X3_35 rfl rfl ⟨Nat.le_of_ble_eq_true rfl, Nat.le_of_ble_eq_true rfl⟩ rfl hl.1 rfl (Nat.le_of_ble_eq_true rfl) dX3_find_20 ⟨(Nat.le_of_ble_eq_true rfl), (Nat.le_of_ble_eq_true rfl)⟩) hZ (fun r9 V6 n7 _ _ hw8 hZ => ?_)
      obtain ⟨rfl, rfl, hp12⟩ := hw8
      have b13 := hq_rng r9
      refine lv_if_eq (tgt := 28) hx hb dX3_find_23 (by decide) (fun c14 => ?_) (fun c14 => ?_)
      · have c14 : (r9).toInt = (0 : Int) := hq_eqi.mp c14
        have hna : ¬ u9 = ask := fun g9 => (hx_D.neg hp12 (by omega)).2 ((hw4.same hask).mpr g9)
        obtain ⟨y15, ey16⟩ : ∃ y : Int32, y = i + (1) := ⟨_, rfl⟩
        obtain ⟨k17, hk18, b19, b20⟩ := hq_add (i) (1)
        rw [← ey16] at hk18 b19 b20
        have hk18 : (y15).toInt = (i).toInt + (1) + k17 * 4294967296 := hk18
        obtain rfl : k17 = 0 := by omega
        refine lv_iinc (v := y15) (lv' := [(2, .int (y15)), (0, .ref (fl)), (1, .ref (kb))]) hx hb dX3_find_28 hl (k := 0) rfl (by rw [ey16]; rfl) (by decide) rfl (fun ls hl => ?_)
        refine lv_goto (tgt := 2) hx hb dX3_find_31 (by decide) ?_
        exact ih2 _ (by omega) _ _ ls (y15) rfl hZ hP (by omega) (by omega) (fun j u hj hu => by rcases Classical.em ((j : Int) < i.toInt) with c9 | c9; (· exact hno9 j u c9 hu); (· obtain rfl : j = i.toNatClampNeg := (by omega); cases hu9.symm.trans hu; exact hna)) (lv_sub hl [0, 1, 2] rfl)
      · have c14 : ¬ (r9).toInt = (0 : Int) := fun h9 => c14 (hq_eqi.mpr h9)
        have hya : u9 = ask := (hw4.same hask).mp (hx_D.pos hp12 (by rcases Classical.em ((r9).toInt = 1) with h9 | h9; exact h9; exact absurd (hx_D.neg hp12 h9).1 (by omega)))
        refine lv_iload_n hx hb dX3_find_26 rfl (lv_at hl 0 rfl) ?_
        exact hp_iret hx hb hr hlocks hZ ⟨rfl, rfl, Or.inr ⟨by omega, by omega, by rw [← hya]; exact List.mem_iff_getElem?.mpr ⟨_, hu9⟩⟩⟩ dX3_find_27

set_option maxHeartbeats 4000000 in
set_option maxRecDepth 100000 in
theorem x_wset (l : Launch) (D : va_G) (cs : Nat → ClassId) (B : Nat) (G : hq_G) (V : hp_V) (n : Nat) (hI : hq_I cs G V) (a : Nat) (a2 : Nat) (ww0 : Int32) (ww1 : Int32) (ww2 : Int32) (ww3 : Int32) (ww4 : Int32) (ww5 : Int32) (ww6 : Int32) (vv0 : Int32) (vv1 : Int32) (vv2 : Int32) (vv3 : Int32) (vv4 : Int32) (vv5 : Int32) (vv6 : Int32) (hy0 : G (a) = some (13, 0, 0, 0)) (hc0 : V (a) = some (.inr (10, [.int (ww0), .int (ww1), .int (ww2), .int (ww3), .int (ww4), .int (ww5), .int (ww6)]))) (hc1 : V (a2) = some (.inr (10, [.int (vv0), .int (vv1), .int (vv2), .int (vv3), .int (vv4), .int (vv5), .int (vv6)]))) (hne : a ≠ a2) (hv1 : -1 ≤ vv1.toInt ∧ vv1.toInt ≤ 59) (hv2 : -1 ≤ vv2.toInt ∧ vv2.toInt ≤ 59) : hp_M l yX10_set cX10_set 2 none ({ frames := 1, cells := 0, slots := 0, locals := 21 }) D cs B V n [.ref (a), .ref (a2)] (hp_QV D cs B (fun V' n' => n = n' ∧ hq_P cs G (fun _ => true) V V' ∧ (∀ x, x ≠ a → V' x = V x) ∧ V' (a) = some (.inr (10, [.int (vv0), .int (vv1), .int (vv2), .int (vv3), .int (vv4), .int (vv5), .int (vv6)])))) 0 0 := by
  refine hp_walk (R0 := RX10) (by decide) rfl ?_ (Nat.le_of_ble_eq_true rfl)
  intro p e s m below meth c ls hx hb hr hts hown hlocks hin hml hZ hl
  have hP : hq_P cs G (fun _ => true) V V := hq_P.rf hI
  have hl : lv_has ls 2 [(0, .ref (a)), (1, .ref (a2))] := hl
  have hb_ww0 := hq_rng ww0
  have hb_ww1 := hq_rng ww1
  have hb_ww2 := hq_rng ww2
  have hb_ww3 := hq_rng ww3
  have hb_ww4 := hq_rng ww4
  have hb_ww5 := hq_rng ww5
  have hb_ww6 := hq_rng ww6
  have hb_vv0 := hq_rng vv0
  have hb_vv1 := hq_rng vv1
  have hb_vv2 := hq_rng vv2
  have hb_vv3 := hq_rng vv3
  have hb_vv4 := hq_rng vv4
  have hb_vv5 := hq_rng vv5
  have hb_vv6 := hq_rng vv6
  obtain ⟨hw13, hw14⟩ := hq_b13 hI hy0 hc0
  refine lv_aload_n hx hb dX10_set_0 rfl (lv_at hl 0 rfl) ?_
  refine lv_aload_n hx hb dX10_set_1 rfl (lv_at hl 1 rfl) ?_
  refine hp_get (v := .int (vv0)) hx hb hts hown hZ hc1 fl_X10_9 rfl dX10_set_2 ?_
  refine hp_put hx hb hts hown hZ hc0 fp_X10_9 rfl rfl (Nat.le_of_ble_eq_true rfl) dX10_set_5 (fun V1 _ _ e2 o3 hZ => ?_)
  have e2 : V1 (a) = some (.inr (10, [.int (vv0), .int (ww1), .int (ww2), .int (ww3), .int (ww4), .int (ww5), .int (ww6)])) := e2
  have hP := hP.put hy0 e2 o3 (hq_c13 (show -1 ≤ (ww1).toInt ∧ (ww1).toInt ≤ 59 by omega) (show -1 ≤ (ww2).toInt ∧ (ww2).toInt ≤ 59 by omega)) rfl
  refine lv_aload_n hx hb dX10_set_8 rfl (lv_at hl 0 rfl) ?_
  refine lv_aload_n hx hb dX10_set_9 rfl (lv_at hl 1 rfl) ?_
  have fx4 : V1 (a2) = some (.inr (10, [.int (vv0), .int (vv1), .int (vv2), .int (vv3), .int (vv4), .int (vv5), .int (vv6)])) := (o3 (a2) (by omega)).trans (hc1)
  refine hp_get (v := .int (vv1)) hx hb hts hown hZ fx4 fl_X10_15 rfl dX10_set_10 ?_
  refine hp_put hx hb hts hown hZ e2 fp_X10_15 rfl rfl (Nat.le_of_ble_eq_true rfl) dX10_set_13 (fun V5 _ _ e6 o7 hZ => ?_)
  have e6 : V5 (a) = some (.inr (10, [.int (vv0), .int (vv1), .int (ww2), .int (ww3), .int (ww4), .int (ww5), .int (ww6)])) := e6
  have hP := hP.put hy0 e6 o7 (hq_c13 (show -1 ≤ (vv1).toInt ∧ (vv1).toInt ≤ 59 by omega) (show -1 ≤ (ww2).toInt ∧ (ww2).toInt ≤ 59 by omega)) rfl
  refine lv_aload_n hx hb dX10_set_16 rfl (lv_at hl 0 rfl) ?_
  refine lv_aload_n hx hb dX10_set_17 rfl (lv_at hl 1 rfl) ?_
  have fx8 : V5 (a2) = some (.inr (10, [.int (vv0), .int (vv1), .int (vv2), .int (vv3), .int (vv4), .int (vv5), .int (vv6)])) := (o7 (a2) (by omega)).trans (fx4)
  refine hp_get (v := .int (vv2)) hx hb hts hown hZ fx8 fl_X10_18 rfl dX10_set_18 ?_
  refine hp_put hx hb hts hown hZ e6 fp_X10_18 rfl rfl (Nat.le_of_ble_eq_true rfl) dX10_set_21 (fun V9 _ _ e10 o11 hZ => ?_)
  have e10 : V9 (a) = some (.inr (10, [.int (vv0), .int (vv1), .int (vv2), .int (ww3), .int (ww4), .int (ww5), .int (ww6)])) := e10
  have hP := hP.put hy0 e10 o11 (hq_c13 (show -1 ≤ (vv1).toInt ∧ (vv1).toInt ≤ 59 by omega) (show -1 ≤ (vv2).toInt ∧ (vv2).toInt ≤ 59 by omega)) rfl
  refine lv_aload_n hx hb dX10_set_24 rfl (lv_at hl 0 rfl) ?_
  refine lv_aload_n hx hb dX10_set_25 rfl (lv_at hl 1 rfl) ?_
  have fx12 : V9 (a2) = some (.inr (10, [.int (vv0), .int (vv1), .int (vv2), .int (vv3), .int (vv4), .int (vv5), .int (vv6)])) := (o11 (a2) (by omega)).trans (fx8)
  refine hp_get (v := .int (vv3)) hx hb hts hown hZ fx12 fl_X10_21 rfl dX10_set_26 ?_
  refine hp_put hx hb hts hown hZ e10 fp_X10_21 rfl rfl (Nat.le_of_ble_eq_true rfl) dX10_set_29 (fun V13 _ _ e14 o15 hZ => ?_)
  have e14 : V13 (a) = some (.inr (10, [.int (vv0), .int (vv1), .int (vv2), .int (vv3), .int (ww4), .int (ww5), .int (ww6)])) := e14
  have hP := hP.put hy0 e14 o15 (hq_c13 (show -1 ≤ (vv1).toInt ∧ (vv1).toInt ≤ 59 by omega) (show -1 ≤ (vv2).toInt ∧ (vv2).toInt ≤ 59 by omega)) rfl
  refine lv_aload_n hx hb dX10_set_32 rfl (lv_at hl 0 rfl) ?_
  refine lv_aload_n hx hb dX10_set_33 rfl (lv_at hl 1 rfl) ?_
  have fx16 : V13 (a2) = some (.inr (10, [.int (vv0), .int (vv1), .int (vv2), .int (vv3), .int (vv4), .int (vv5), .int (vv6)])) := (o15 (a2) (by omega)).trans (fx12)
  refine hp_get (v := .int (vv4)) hx hb hts hown hZ fx16 fl_X10_24 rfl dX10_set_34 ?_
  refine hp_put hx hb hts hown hZ e14 fp_X10_24 rfl rfl (Nat.le_of_ble_eq_true rfl) dX10_set_37 (fun V17 _ _ e18 o19 hZ => ?_)
  have e18 : V17 (a) = some (.inr (10, [.int (vv0), .int (vv1), .int (vv2), .int (vv3), .int (vv4), .int (ww5), .int (ww6)])) := e18
  have hP := hP.put hy0 e18 o19 (hq_c13 (show -1 ≤ (vv1).toInt ∧ (vv1).toInt ≤ 59 by omega) (show -1 ≤ (vv2).toInt ∧ (vv2).toInt ≤ 59 by omega)) rfl
  refine lv_aload_n hx hb dX10_set_40 rfl (lv_at hl 0 rfl) ?_
  refine lv_aload_n hx hb dX10_set_41 rfl (lv_at hl 1 rfl) ?_
  have fx20 : V17 (a2) = some (.inr (10, [.int (vv0), .int (vv1), .int (vv2), .int (vv3), .int (vv4), .int (vv5), .int (vv6)])) := (o19 (a2) (by omega)).trans (fx16)
  refine hp_get (v := .int (vv5)) hx hb hts hown hZ fx20 fl_X10_27 rfl dX10_set_42 ?_
  refine hp_put hx hb hts hown hZ e18 fp_X10_27 rfl rfl (Nat.le_of_ble_eq_true rfl) dX10_set_45 (fun V21 _ _ e22 o23 hZ => ?_)
  have e22 : V21 (a) = some (.inr (10, [.int (vv0), .int (vv1), .int (vv2), .int (vv3), .int (vv4), .int (vv5), .int (ww6)])) := e22
  have hP := hP.put hy0 e22 o23 (hq_c13 (show -1 ≤ (vv1).toInt ∧ (vv1).toInt ≤ 59 by omega) (show -1 ≤ (vv2).toInt ∧ (vv2).toInt ≤ 59 by omega)) rfl
  refine lv_aload_n hx hb dX10_set_48 rfl (lv_at hl 0 rfl) ?_
  refine lv_aload_n hx hb dX10_set_49 rfl (lv_at hl 1 rfl) ?_
  have fx24 : V21 (a2) = some (.inr (10, [.int (vv0), .int (vv1), .int (vv2), .int (vv3), .int (vv4), .int (vv5), .int (vv6)])) := (o23 (a2) (by omega)).trans (fx20)
  refine hp_get (v := .int (vv6)) hx hb hts hown hZ fx24 fl_X10_30 rfl dX10_set_50 ?_
  refine hp_put hx hb hts hown hZ e22 fp_X10_30 rfl rfl (Nat.le_of_ble_eq_true rfl) dX10_set_53 (fun V25 _ _ e26 o27 hZ => ?_)
  have e26 : V25 (a) = some (.inr (10, [.int (vv0), .int (vv1), .int (vv2), .int (vv3), .int (vv4), .int (vv5), .int (vv6)])) := e26
  have hP := hP.put hy0 e26 o27 (hq_c13 (show -1 ≤ (vv1).toInt ∧ (vv1).toInt ≤ 59 by omega) (show -1 ≤ (vv2).toInt ∧ (vv2).toInt ≤ 59 by omega)) rfl
  exact hp_vret hx hb hr hlocks hZ ⟨rfl, hP, (fun x8 hne0 => (o27 x8 hne0).trans ((o23 x8 hne0).trans ((o19 x8 hne0).trans ((o15 x8 hne0).trans ((o11 x8 hne0).trans ((o7 x8 hne0).trans (o3 x8 hne0))))))), e26⟩ dX10_set_56

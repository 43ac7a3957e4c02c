set_option maxHeartbeats 4000000 in
set_option maxRecDepth 100000 in
theorem x_fclear (l : Launch) (D : va_G) (cs : Nat → ClassId) (B : Nat) (G : hq_G) (V : hp_V) (n : Nat) (hI : hq_I cs G V) (it : Nat) (rz : Int32) (iz : Int32) (hy0 : G (it) = some (7, 0, 0, 0)) (hy1 : G (it + 1) = some (0, 30, 0, 0)) (hy2 : G (it + 2) = some (1, 30, 0, 0)) (hy3 : G (it + 3) = some (2, 5, 120, 0)) (hc0 : V (it) = some (.inr (2, [.ref (it + 1), .ref (it + 3), .int (rz)]))) (hc1 : V (it + 1) = some (.inr (9, [.ref (it + 1 + 1), .int (iz)]))) : hp_M l yX2_clear cX2_clear 1 none ({ frames := 2, cells := 0, slots := 0, locals := 41 }) D cs B V n [.ref (it)] (hp_QV D cs B (fun V' n' => n = n' ∧ hq_P cs G (fun _ => true) V V' ∧ (∀ x, x ≠ it → x ≠ it + 1 → V' x = V x) ∧ V' (it) = some (.inr (2, [.ref (it + 1), .ref (it + 3), .int (0)])) ∧ V' (it + 1) = some (.inr (9, [.ref (it + 1 + 1), .int (0)])))) 0 0 := by
  refine hp_walk (R0 := RX2) (by decide) rfl ?_ (Nat.le_of_ble_eq_true rfl)
  intro p e s m below meth c ls hx hb hr hts hown hlocks hin hml hZ hl
  have hP : hq_P cs G (fun _ => true) V V := hq_P.rf hI
  have hl : lv_has ls 1 [(0, .ref (it))] := hl
  have hb_rz := hq_rng rz
  have hb_iz := hq_rng iz
  refine lv_aload_n hx hb dX2_clear_0 rfl (lv_at hl 0 rfl) ?_
  refine hp_get (v := .ref (it + 1)) hx hb hts hown hZ hc0 fl_X2_14 rfl dX2_clear_1 ?_
  refine hp_callv (hp_runV (As := []) (rest := []) hx hb hml hown hts (x_clear l D cs B G V n hP.1 (it + 1) (30) (iz) hy1 hy2 hc1  (by decide)) hZ hc1 cv_X2_24 rfl rfl ⟨Nat.le_of_ble_eq_true rfl, Nat.le_of_ble_eq_true rfl⟩ rfl hl.1 rfl (Nat.le_of_ble_eq_true rfl) dX2_clear_4 ⟨(Nat.le_of_ble_eq_true rfl), (Nat.le_of_ble_eq_true rfl)⟩) hZ (fun V1 n2 _ _ hw3 hZ => ?_)
  obtain ⟨rfl, hq5, fr6, ho7⟩ := hw3
  have hP := hP.trans hq5 (fun _ h => Bool.noConfusion h)
  refine lv_aload_n hx hb dX2_clear_7 rfl (lv_at hl 0 rfl) ?_
  refine lv_iconst (v := 0) hx hb dX2_clear_8 (by decide) ?_
  have fx8 : V1 (it) = some (.inr (2, [.ref (it + 1), .ref (it + 3), .int (rz)])) := (fr6 (it) (hq_tne hy0 hy1 (by simp))).trans (hc0)
  refine hp_put hx hb hts hown hZ fx8 fp_X2_27 rfl rfl (Nat.le_of_ble_eq_true rfl) dX2_clear_9 (fun V9 _ _ e10 o11 hZ => ?_)
  have e10 : V9 (it) = some (.inr (2, [.ref (it + 1), .ref (it + 3), .int (0)])) := e10
  have hP := hP.put hy0 e10 o11 (hq_c7 hy1 hy3 (show 0 ≤ (0 : Int) by omega) (show (0 : Int) ≤ 120 by omega) (by first | rfl | omega) (by first | rfl | omega)) rfl
  have fx12 : V9 (it + 1) = some (.inr (9, [.ref (it + 2), .int (0)])) := (o11 (it + 1) (hq_tne hy1 hy0 (by simp))).trans (ho7)
  exact hp_vret hx hb hr hlocks hZ ⟨rfl, hP, (fun x8 hne0 hne1 => (o11 x8 hne0).trans (fr6 x8 hne1)), e10, fx12⟩ dX2_clear_12

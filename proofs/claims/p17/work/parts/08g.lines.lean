set_option maxHeartbeats 4000000 in
set_option maxRecDepth 100000 in
theorem x_begin (l : Launch) (D : va_G) (cs : Nat → ClassId) (B : Nat) (G : hq_G) (V : hp_V) (n : Nat) (hI : hq_I cs G V) (it : Nat) (bb : Nat) (k : Int32) (lk : Int32) (lo : Int32) (lt : Int32) (lp : Int32) (lh : Int32) (lht : Int32) (lpa : Int32) (lla : Int32) (fz : Int32) (sz : Int32) (hy0 : G (it) = some (5, bb, 0, 0)) (hy1 : G (it + 1) = some (0, 8, 0, 0)) (hy2 : G (it + 2) = some (1, 8, 0, 0)) (hy3 : G (it + 3) = some (0, 8, 0, 0)) (hy4 : G (it + 4) = some (1, 8, 0, 0)) (hc0 : V (it) = some (.inr (5, [.int (lk), .int (lo), .int (lt), .int (lp), .int (lh), .int (lht), .int (lpa), .int (lla), .ref (it + 1), .ref (it + 3)]))) (hc1 : V (it + 1) = some (.inr (9, [.ref (it + 1 + 1), .int (fz)]))) (hc2 : V (it + 3) = some (.inr (9, [.ref (it + 3 + 1), .int (sz)]))) (hh : -1 ≤ lh.toInt ∧ lh.toInt ≤ 29) : hp_M l yX5_begin cX5_begin 2 none ({ frames := 2, cells := 0, slots := 0, locals := 41 }) D cs B V n [.ref (it), .int (k)] (hp_QV D cs B (fun V' n' => n = n' ∧ hq_P cs G (fun _ => true) V V' ∧ (∀ x, x ≠ it → x ≠ it + 1 → x ≠ it + 3 → V' x = V x) ∧ V' (it) = some (.inr (5, [.int (k), .int (-1), .int (-1), .int (-1), .int (-1), .int (-1), .int (-1), .int (0), .ref (it + 1), .ref (it + 3)])) ∧ V' (it + 1) = some (.inr (9, [.ref (it + 1 + 1), .int (0)])) ∧ V' (it + 3) = some (.inr (9, [.ref (it + 3 + 1), .int (0)])))) 0 0 := by
  refine hp_walk (R0 := RX5) (by decide) rfl ?_ (Nat.le_of_ble_eq_true rfl)
  intro p e s m below meth c ls hx hb hr hts hown hlocks hin hml hZ hl
  have hP : hq_P cs G (fun _ => true) V V := hq_P.rf hI
  have hl : lv_has ls 2 [(0, .ref (it)), (1, .int (k))] := hl
  have hb_k := hq_rng k
  have hb_lk := hq_rng lk
  have hb_lo := hq_rng lo
  have hb_lt := hq_rng lt
  have hb_lp := hq_rng lp
  have hb_lh := hq_rng lh
  have hb_lht := hq_rng lht
  have hb_lpa := hq_rng lpa
  have hb_lla := hq_rng lla
  have hb_fz := hq_rng fz
  have hb_sz := hq_rng sz
  refine lv_aload_n hx hb dX5_begin_0 rfl (lv_at hl 0 rfl) ?_
  refine lv_iload_n hx hb dX5_begin_1 rfl (lv_at hl 1 rfl) ?_
  refine hp_put hx hb hts hown hZ hc0 fp_X5_23 rfl rfl (Nat.le_of_ble_eq_true rfl) dX5_begin_2 (fun V1 _ _ e2 o3 hZ => ?_)
  have e2 : V1 (it) = some (.inr (5, [.int (k), .int (lo), .int (lt), .int (lp), .int (lh), .int (lht), .int (lpa), .int (lla), .ref (it + 1), .ref (it + 3)])) := e2
  have hP := hP.put hy0 e2 o3 (hq_c5 hy1 hy3 (show -1 ≤ (lh).toInt by omega) (show (lh).toInt ≤ 29 by omega)) rfl
  refine lv_aload_n hx hb dX5_begin_5 rfl (lv_at hl 0 rfl) ?_
  refine lv_iconst (v := -1) hx hb dX5_begin_6 (by decide) ?_
  refine hp_put hx hb hts hown hZ e2 fp_X5_27 rfl rfl (Nat.le_of_ble_eq_true rfl) dX5_begin_7 (fun V4 _ _ e5 o6 hZ => ?_)
  have e5 : V4 (it) = some (.inr (5, [.int (k), .int (-1), .int (lt), .int (lp), .int (lh), .int (lht), .int (lpa), .int (lla), .ref (it + 1), .ref (it + 3)])) := e5
  have hP := hP.put hy0 e5 o6 (hq_c5 hy1 hy3 (show -1 ≤ (lh).toInt by omega) (show (lh).toInt ≤ 29 by omega)) rfl
  refine lv_aload_n hx hb dX5_begin_10 rfl (lv_at hl 0 rfl) ?_
  refine lv_iconst (v := -1) hx hb dX5_begin_11 (by decide) ?_
  refine hp_put hx hb hts hown hZ e5 fp_X5_30 rfl rfl (Nat.le_of_ble_eq_true rfl) dX5_begin_12 (fun V7 _ _ e8 o9 hZ => ?_)
  have e8 : V7 (it) = some (.inr (5, [.int (k), .int (-1), .int (-1), .int (lp), .int (lh), .int (lht), .int (lpa), .int (lla), .ref (it + 1), .ref (it + 3)])) := e8
  have hP := hP.put hy0 e8 o9 (hq_c5 hy1 hy3 (show -1 ≤ (lh).toInt by omega) (show (lh).toInt ≤ 29 by omega)) rfl
  refine lv_aload_n hx hb dX5_begin_15 rfl (lv_at hl 0 rfl) ?_
  refine lv_iconst (v := -1) hx hb dX5_begin_16 (by decide) ?_
  refine hp_put hx hb hts hown hZ e8 fp_X5_33 rfl rfl (Nat.le_of_ble_eq_true rfl) dX5_begin_17 (fun V10 _ _ e11 o12 hZ => ?_)
  have e11 : V10 (it) = some (.inr (5, [.int (k), .int (-1), .int (-1), .int (-1), .int (lh), .int (lht), .int (lpa), .int (lla), .ref (it + 1), .ref (it + 3)])) := e11
  have hP := hP.put hy0 e11 o12 (hq_c5 hy1 hy3 (show -1 ≤ (lh).toInt by omega) (show (lh).toInt ≤ 29 by omega)) rfl
  refine lv_aload_n hx hb dX5_begin_20 rfl (lv_at hl 0 rfl) ?_
  refine lv_iconst (v := -1) hx hb dX5_begin_21 (by decide) ?_
  refine hp_put hx hb hts hown hZ e11 fp_X5_36 rfl rfl (Nat.le_of_ble_eq_true rfl) dX5_begin_22 (fun V13 _ _ e14 o15 hZ => ?_)
  have e14 : V13 (it) = some (.inr (5, [.int (k), .int (-1), .int (-1), .int (-1), .int (-1), .int (lht), .int (lpa), .int (lla), .ref (it + 1), .ref (it + 3)])) := e14
  have hP := hP.put hy0 e14 o15 (hq_c5 hy1 hy3 (show -1 ≤ (-1 : Int) by omega) (show (-1 : Int) ≤ 29 by omega)) rfl
  refine lv_aload_n hx hb dX5_begin_25 rfl (lv_at hl 0 rfl) ?_
  refine lv_iconst (v := -1) hx hb dX5_begin_26 (by decide) ?_
  refine hp_put hx hb hts hown hZ e14 fp_X5_39 rfl rfl (Nat.le_of_ble_eq_true rfl) dX5_begin_27 (fun V16 _ _ e17 o18 hZ => ?_)
  have e17 : V16 (it) = some (.inr (5, [.int (k), .int (-1), .int (-1), .int (-1), .int (-1), .int (-1), .int (lpa), .int (lla), .ref (it + 1), .ref (it + 3)])) := e17
  have hP := hP.put hy0 e17 o18 (hq_c5 hy1 hy3 (show -1 ≤ (-1 : Int) by omega) (show (-1 : Int) ≤ 29 by omega)) rfl
  refine lv_aload_n hx hb dX5_begin_30 rfl (lv_at hl 0 rfl) ?_
  refine lv_iconst (v := -1) hx hb dX5_begin_31 (by decide) ?_
  refine hp_put hx hb hts hown hZ e17 fp_X5_42 rfl rfl (Nat.le_of_ble_eq_true rfl) dX5_begin_32 (fun V19 _ _ e20 o21 hZ => ?_)
  have e20 : V19 (it) = some (.inr (5, [.int (k), .int (-1), .int (-1), .int (-1), .int (-1), .int (-1), .int (-1), .int (lla), .ref (it + 1), .ref (it + 3)])) := e20
  have hP := hP.put hy0 e20 o21 (hq_c5 hy1 hy3 (show -1 ≤ (-1 : Int) by omega) (show (-1 : Int) ≤ 29 by omega)) rfl
  refine lv_aload_n hx hb dX5_begin_35 rfl (lv_at hl 0 rfl) ?_
  refine lv_iconst (v := 0) hx hb dX5_begin_36 (by decide) ?_
  refine hp_put hx hb hts hown hZ e20 fp_X5_45 rfl rfl (Nat.le_of_ble_eq_true rfl) dX5_begin_37 (fun V22 _ _ e23 o24 hZ => ?_)
  have e23 : V22 (it) = some (.inr (5, [.int (k), .int (-1), .int (-1), .int (-1), .int (-1), .int (-1), .int (-1), .int (0), .ref (it + 1), .ref (it + 3)])) := e23
  have hP := hP.put hy0 e23 o24 (hq_c5 hy1 hy3 (show -1 ≤ (-1 : Int) by omega) (show (-1 : Int) ≤ 29 by omega)) rfl
  refine lv_aload_n hx hb dX5_begin_40 rfl (lv_at hl 0 rfl) ?_
  refine hp_get (v := .ref (it + 1)) hx hb hts hown hZ e23 fl_X5_14 rfl dX5_begin_41 ?_
  have fx25 : V22 (it + 1) = some (.inr (9, [.ref (it + 1 + 1), .int (fz)])) := (o24 (it + 1) (hq_tne hy1 hy0 (by simp))).trans ((o21 (it + 1) (hq_tne hy1 hy0 (by simp))).trans ((o18 (it + 1) (hq_tne hy1 hy0 (by simp))).trans ((o15 (it + 1) (hq_tne hy1 hy0 (by simp))).trans ((o12 (it + 1) (hq_tne hy1 hy0 (by simp))).trans ((o9 (it + 1) (hq_tne hy1 hy0 (by simp))).trans ((o6 (it + 1) (hq_tne hy1 hy0 (by simp))).trans ((o3 (it + 1) (hq_tne hy1 hy0 (by simp))).trans (hc1))))))))
  refine hp_callv (hp_runV (As := []) (rest := []) hx hb hml hown hts (x_clear l D cs B G V22 n hP.1 (it + 1) (8) (fz) hy1 hy2 fx25  (by decide)) hZ fx25 cv_X5_49 rfl rfl ⟨Nat.le_of_ble_eq_true rfl, Nat.le_of_ble_eq_true rfl⟩ rfl hl.1 rfl (Nat.le_of_ble_eq_true rfl) dX5_begin_44 ⟨(Nat.le_of_ble_eq_true rfl), (Nat.le_of_ble_eq_true rfl)⟩) hZ (fun V26 n27 _ _ hw28 hZ => ?_)
  obtain ⟨rfl, hq30, fr31, ho32⟩ := hw28
  have hP := hP.trans hq30 (fun _ h => Bool.noConfusion h)
  refine lv_aload_n hx hb dX5_begin_47 rfl (lv_at hl 0 rfl) ?_
  have fx33 : V26 (it) = some (.inr (5, [.int (k), .int (-1), .int (-1), .int (-1), .int (-1), .int (-1), .int (-1), .int (0), .ref (it + 1), .ref (it + 3)])) := (fr31 (it) (hq_tne hy0 hy1 (by simp))).trans (e23)
  refine hp_get (v := .ref (it + 3)) hx hb hts hown hZ fx33 fl_X5_20 rfl dX5_begin_48 ?_
  have fx34 : V26 (it + 3) = some (.inr (9, [.ref (it + 3 + 1), .int (sz)])) := (fr31 (it + 3) (hq_ne it 3 1 (by decide))).trans ((o24 (it + 3) (hq_tne hy3 hy0 (by simp))).trans ((o21 (it + 3) (hq_tne hy3 hy0 (by simp))).trans ((o18 (it + 3) (hq_tne hy3 hy0 (by simp))).trans ((o15 (it + 3) (hq_tne hy3 hy0 (by simp))).trans ((o12 (it + 3) (hq_tne hy3 hy0 (by simp))).trans ((o9 (it + 3) (hq_tne hy3 hy0 (by simp))).trans ((o6 (it + 3) (hq_tne hy3 hy0 (by simp))).trans ((o3 (it + 3) (hq_tne hy3 hy0 (by simp))).trans (hc2)))))))))
  refine hp_callv (hp_runV (As := []) (rest := []) hx hb hml hown hts (x_clear l D cs B G V26 n hP.1 (it + 3) (8) (sz) hy3 hy4 fx34  (by decide)) hZ fx34 cv_X5_49 rfl rfl ⟨Nat.le_of_ble_eq_true rfl, Nat.le_of_ble_eq_true rfl⟩ rfl hl.1 rfl (Nat.le_of_ble_eq_true rfl) dX5_begin_51 ⟨(Nat.le_of_ble_eq_true rfl), (Nat.le_of_ble_eq_true rfl)⟩) hZ (fun V35 n36 _ _ hw37 hZ => ?_)
  obtain ⟨rfl, hq39, fr40, ho41⟩ := hw37
  have hP := hP.trans hq39 (fun _ h => Bool.noConfusion h)
  have fx42 : V35 (it) = some (.inr (5, [.int (k), .int (-1), .int (-1), .int (-1), .int (-1), .int (-1), .int (-1), .int (0), .ref (it + 1), .ref (it + 3)])) := (fr40 (it) (hq_tne hy0 hy3 (by simp))).trans (fx33)
  have fx43 : V35 (it + 1) = some (.inr (9, [.ref (it + 2), .int (0)])) := (fr40 (it + 1) (hq_ne it 1 3 (by decide))).trans (ho32)
  exact hp_vret hx hb hr hlocks hZ ⟨rfl, hP, (fun x8 hne0 hne1 hne2 => (fr40 x8 hne2).trans ((fr31 x8 hne1).trans ((o24 x8 hne0).trans ((o21 x8 hne0).trans ((o18 x8 hne0).trans ((o15 x8 hne0).trans ((o12 x8 hne0).trans ((o9 x8 hne0).trans ((o6 x8 hne0).trans (o3 x8 hne0)))))))))), fx42, fx43, ho41⟩ dX5_begin_54

set_option maxHeartbeats 4000000 in
set_option maxRecDepth 100000 in
theorem x_takeLast (l : Launch) (D : va_G) (cs : Nat → ClassId) (B : Nat) (G : hq_G) (V : hp_V) (n : Nat) (hI : hq_I cs G V) (kb : Nat) (qb : Nat) (w : sp_W) (it : Nat) (bb : Nat) (j : Nat) (fk : Int32) (fp : Int32) (nx : Int32) (tk : Int32) (st : Int32) (lk : Int32) (lo : Int32) (lt : Int32) (lp : Int32) (lh : Int32) (lht : Int32) (lpa : Int32) (lla : Int32) (hy0 : G (kb) = some (0, 4000, 0, 0)) (hy1 : G (kb + 1) = some (1, 4000, 0, 0)) (hy2 : G (kb + 2) = some (10, 0, 0, 0)) (hy3 : G (it) = some (5, bb, 0, 0)) (hy4 : G (it + 1) = some (0, 8, 0, 0)) (hy5 : G (it + 2) = some (1, 8, 0, 0)) (hy6 : G (it + 3) = some (0, 8, 0, 0)) (hy7 : G (it + 4) = some (1, 8, 0, 0)) (hc0 : V (kb + 2) = some (.inr (7, [.int (fk), .int (fp), .ref (kb), .ref (qb), .int (nx), .int (tk), .int (st), .ref (kb + 3)]))) (hc1 : V (it) = some (.inr (5, [.int (lk), .int (lo), .int (lt), .int (lp), .int (lh), .int (lht), .int (lpa), .int (lla), .ref (it + 1), .ref (it + 3)]))) (hp0 : hx_TP cs V kb w) (hA : hx_A w j st nx tk) (hq : kb + 88 ≤ qb) (hit : qb + 77 ≤ it ∧ it + 5 ≤ qb + 377) (hh : -1 ≤ lh.toInt ∧ lh.toInt ≤ 29) : hp_M l yX7_takeLast cX7_takeLast 2 (some .boolean) ({ frames := 7, cells := 0, slots := 0, locals := 152 }) D cs B V n [.ref (kb + 2), .ref (it)] (hp_QI D cs B (fun r V' n' => n = n' ∧ hq_P cs G (fun _ => true) V V' ∧ (∀ x, x ≠ kb + 2 → x ≠ it → V' x = V x) ∧ (∃ fk1 : Int32, ∃ fp1 : Int32, ∃ nx1 : Int32, ∃ tk1 : Int32, ∃ st1 : Int32, ∃ lla1 : Int32, V' (kb + 2) = some (.inr (7, [.int (fk1), .int (fp1), .ref (kb), .ref (qb), .int (nx1), .int (tk1), .int (st1), .ref (kb + 3)])) ∧ V' (it) = some (.inr (5, [.int (lk), .int (lo), .int (lt), .int (lp), .int (lh), .int (lht), .int (lpa), .int (lla1), .ref (it + 1), .ref (it + 3)])) ∧ (r.toInt = 1) ∧ (hx_O w (sp_last w j).2.1 fk fp fk1 fp1 st1 nx1 tk1 ∧ lla1.toInt = (sp_last w j).2.2)))) 0 0 := by
  refine hp_walk (R0 := RX7) (by decide) rfl ?_ (Nat.le_of_ble_eq_true rfl)
  intro p e s m below meth c ls hx hb hr hts hown hlocks hin hml hZ hl
  have hP : hq_P cs G (fun _ => true) V V := hq_P.rf hI
  have hl : lv_has ls 2 [(0, .ref (kb + 2)), (1, .ref (it))] := hl
  have hb_fk := hq_rng fk
  have hb_fp := hq_rng fp
  have hb_nx := hq_rng nx
  have hb_tk := hq_rng tk
  have hb_st := hq_rng st
  have hb_lk := hq_rng lk
  have hb_lo := hq_rng lo
  have hb_lt := hq_rng lt
  have hb_lp := hq_rng lp
  have hb_lh := hq_rng lh
  have hb_lht := hq_rng lht
  have hb_lpa := hq_rng lpa
  have hb_lla := hq_rng lla
  obtain ⟨b1, b2, b3, b4⟩ := id hA
  refine lv_aload_n hx hb dX7_takeLast_0 rfl (lv_at hl 1 rfl) ?_
  refine lv_aload_n hx hb dX7_takeLast_1 rfl (lv_at hl 0 rfl) ?_
  refine hp_get (v := .int (tk)) hx hb hts hown hZ hc0 fl_X7_45 rfl dX7_takeLast_2 ?_
  refine lv_bipush (v := 10) hx hb dX7_takeLast_5 (by decide) ?_
  refine lv_icmp_ne (tgt := 14) hx hb dX7_takeLast_7 (by decide) (fun c5 => ?_) (fun c5 => ?_)
  · have c5 : ¬ (tk).toInt = (10 : Int) := fun h9 => c5 (hq_eqi.mpr h9)
    refine lv_iconst (v := 0) hx hb dX7_takeLast_14 (by decide) ?_
    refine hp_put hx hb hts hown hZ hc1 fp_X7_157 rfl rfl (Nat.le_of_ble_eq_true rfl) dX7_takeLast_15 (fun V6 _ _ e7 o8 hZ => ?_)
    have e7 : V6 (it) = some (.inr (5, [.int (lk), .int (lo), .int (lt), .int (lp), .int (lh), .int (lht), .int (lpa), .int (0), .ref (it + 1), .ref (it + 3)])) := e7
    have hP := hP.put hy3 e7 o8 (hq_c5 hy4 hy6 (show -1 ≤ (lh).toInt by omega) (show (lh).toInt ≤ 29 by omega)) rfl
    refine lv_aload_n hx hb dX7_takeLast_18 rfl (lv_at hl 1 rfl) ?_
    refine hp_get (v := .int (0)) hx hb hts hown hZ e7 fl_X7_157 rfl dX7_takeLast_19 ?_
    refine lv_if_eq (tgt := 29) hx hb dX7_takeLast_22 (by decide) (fun c9 => ?_) (fun c9 => absurd (by decide) c9)
    refine lv_iconst (v := 1) hx hb dX7_takeLast_29 (by decide) ?_
    have hl10 : (1 : Int32).toInt = 1 := by decide
    have fx11 : V6 (kb + 2) = some (.inr (7, [.int (fk), .int (fp), .ref (kb), .ref (qb), .int (nx), .int (tk), .int (st), .ref (kb + 3)])) := (o8 (kb + 2) (hq_tne hy2 hy3 (by simp))).trans (hc0)
    have hl12 : (0 : Int32).toInt = 0 := by decide
    exact hp_zret hx hb hr rfl hlocks hZ ⟨rfl, hP, (fun x8 hne0 hne1 => o8 x8 hne1), fk, fp, nx, tk, st, 0, fx11, e7, by omega, by unfold sp_last; (repeat (first | (rw [if_pos]; rotate_left; omega) | (rw [if_neg]; rotate_left; omega))); (try dsimp only); exact ⟨⟨by omega, by omega, hA⟩, by omega⟩⟩ dX7_takeLast_30
  · have c5 : (tk).toInt = (10 : Int) := hq_eqi.mp c5
    refine lv_iconst (v := 1) hx hb dX7_takeLast_10 (by decide) ?_
    refine lv_goto (tgt := 15) hx hb dX7_takeLast_11 (by decide) ?_
    refine hp_put hx hb hts hown hZ hc1 fp_X7_157 rfl rfl (Nat.le_of_ble_eq_true rfl) dX7_takeLast_15 (fun V13 _ _ e14 o15 hZ => ?_)
    have e14 : V13 (it) = some (.inr (5, [.int (lk), .int (lo), .int (lt), .int (lp), .int (lh), .int (lht), .int (lpa), .int (1), .ref (it + 1), .ref (it + 3)])) := e14
    have hP := hP.put hy3 e14 o15 (hq_c5 hy4 hy6 (show -1 ≤ (lh).toInt by omega) (show (lh).toInt ≤ 29 by omega)) rfl
    refine lv_aload_n hx hb dX7_takeLast_18 rfl (lv_at hl 1 rfl) ?_
    refine hp_get (v := .int (1)) hx hb hts hown hZ e14 fl_X7_157 rfl dX7_takeLast_19 ?_
    refine lv_if_eq (tgt := 29) hx hb dX7_takeLast_22 (by decide) (fun c16 => absurd c16 (by decide)) (fun c16 => ?_)
    refine lv_aload_n hx hb dX7_takeLast_25 rfl (lv_at hl 0 rfl) ?_
    have fx17 : V13 (kb + 2) = some (.inr (7, [.int (fk), .int (fp), .ref (kb), .ref (qb), .int (nx), .int (tk), .int (st), .ref (kb + 3)])) := (o15 (kb + 2) (hq_tne hy2 hy3 (by simp))).trans (hc0)
    have pk18 := hp0.keep (o15 (kb) (hq_tne hy0 hy3 (by simp))) (o15 (kb + 1) (hq_tne hy1 hy3 (by simp)))
    refine hp_callv (hp_runV (As := []) (rest := []) hx hb hml hown hts (x_next l D cs B G V13 n hP.1 (kb) (qb) (w) (j) (fk) (fp) (nx) (tk) (st) hy0 hy1 hy2 fx17 pk18 hA (by omega)) hZ fx17 cv_X7_42 rfl rfl ⟨Nat.le_of_ble_eq_true rfl, Nat.le_of_ble_eq_true rfl⟩ rfl hl.1 rfl (Nat.le_of_ble_eq_true rfl) dX7_takeLast_26 ⟨(Nat.le_of_ble_eq_true rfl), (Nat.le_of_ble_eq_true rfl)⟩) hZ (fun V19 n20 _ _ hw21 hZ => ?_)
    obtain ⟨rfl, hq23, fr24, z25, z26, z27, ho28, hp29⟩ := hw21
    have b30 := hq_rng z25
    have b31 := hq_rng z26
    have b32 := hq_rng z27
    have hP := hP.trans hq23 (fun _ h => Bool.noConfusion h)
    obtain ⟨b33, b34, b35, b36⟩ := id hp29
    refine lv_iconst (v := 1) hx hb dX7_takeLast_29 (by decide) ?_
    have hl37 : (1 : Int32).toInt = 1 := by decide
    have fx38 : V19 (it) = some (.inr (5, [.int (lk), .int (lo), .int (lt), .int (lp), .int (lh), .int (lht), .int (lpa), .int (1), .ref (it + 1), .ref (it + 3)])) := (fr24 (it) (hq_tne hy3 hy2 (by simp))).trans (e14)
    have hl39 : (1 : Int32).toInt = 1 := by decide
    exact hp_zret hx hb hr rfl hlocks hZ ⟨rfl, hP, (fun x8 hne0 hne1 => (fr24 x8 hne0).trans (o15 x8 hne1)), fk, fp, z25, z26, z27, 1, ho28, fx38, by omega, by unfold sp_last; (repeat (first | (rw [if_pos]; rotate_left; omega) | (rw [if_neg]; rotate_left; omega))); (try dsimp only); exact ⟨⟨by omega, by omega, hp29⟩, by omega⟩⟩ dX7_takeLast_30

set_option maxHeartbeats 4000000 in
set_option maxRecDepth 100000 in
theorem x_takeWhere (l : Launch) (D : va_G) (cs : Nat → ClassId) (B : Nat) (G : hq_G) (V : hp_V) (n : Nat) (hI : hq_I cs G V) (kb : Nat) (qb : Nat) (w : sp_W) (it : Nat) (bb : Nat) (j : Nat) (cl : List Nat) (fk : Int32) (fp : Int32) (nx : Int32) (tk : Int32) (st : Int32) (nz : Int32) (nf : Nat → Int32) (lk : Int32) (lo : Int32) (lt : Int32) (lp : Int32) (lh : Int32) (lht : Int32) (lpa : Int32) (lla : Int32) (bc : Int32) (bv : Int32) (bl : Int32) (hy0 : G (kb) = some (0, 4000, 0, 0)) (hy1 : G (kb + 1) = some (1, 4000, 0, 0)) (hy2 : G (kb + 2) = some (10, 0, 0, 0)) (hy3 : G (kb + 3) = some (0, 12, 0, 0)) (hy4 : G (kb + 4) = some (1, 12, 0, 0)) (hy5 : G (it) = some (5, bb, 0, 0)) (hy6 : G (it + 1) = some (0, 8, 0, 0)) (hy7 : G (it + 2) = some (1, 8, 0, 0)) (hy8 : G (it + 3) = some (0, 8, 0, 0)) (hy9 : G (it + 4) = some (1, 8, 0, 0)) (hc0 : V (kb + 2) = some (.inr (7, [.int (fk), .int (fp), .ref (kb), .ref (qb), .int (nx), .int (tk), .int (st), .ref (kb + 3)]))) (hc1 : V (kb + 3) = some (.inr (9, [.ref (kb + 3 + 1), .int (nz)]))) (hc2 : V (kb + 4) = some (.inl (cs 0, 12, .inl (nf)))) (hc3 : V (it) = some (.inr (5, [.int (lk), .int (lo), .int (lt), .int (lp), .int (lh), .int (lht), .int (lpa), .int (lla), .ref (it + 1), .ref (it + 3)]))) (hc4 : V (qb) = some (.inr (0, [.ref (qb + 1), .int (bc), .ref (qb + 14), .ref (qb + 75), .int (bv), .ref (qb + 76), .int (bl)]))) (hp0 : hx_TP cs V kb w) (hp1 : hx_BS cs V qb) (hp2 : hx_NL cs V (qb + 2) 6 w cl) (hA : hx_A w j st nx tk) (hq : kb + 88 ≤ qb) (hit : qb + 77 ≤ it ∧ it + 5 ≤ qb + 377) (hh : -1 ≤ lh.toInt ∧ lh.toInt ≤ 29) (hlo : lo.toInt = -1) (hbc : bc.toInt = (cl.length : Int)) : hp_M l yX7_takeWhere cX7_takeWhere 2 (some .boolean) ({ frames := 8, cells := 0, slots := 0, locals := 175 }) D cs B V n [.ref (kb + 2), .ref (it)] (hp_QI D cs B (fun r V' n' => n = n' ∧ hq_P cs G (fun _ => true) V V' ∧ (∀ x, x ≠ kb + 2 → x ≠ kb + 3 → x ≠ kb + 4 → x ≠ it → V' x = V x) ∧ (∃ fk1 : Int32, ∃ fp1 : Int32, ∃ nx1 : Int32, ∃ tk1 : Int32, ∃ st1 : Int32, ∃ nz1 : Int32, ∃ nf1 : Nat → Int32, ∃ lo1 : Int32, V' (kb + 2) = some (.inr (7, [.int (fk1), .int (fp1), .ref (kb), .ref (qb), .int (nx1), .int (tk1), .int (st1), .ref (kb + 3)])) ∧ V' (kb + 3) = some (.inr (9, [.ref (kb + 3 + 1), .int (nz1)])) ∧ V' (kb + 4) = some (.inl (cs 0, 12, .inl (nf1))) ∧ V' (it) = some (.inr (5, [.int (lk), .int (lo1), .int (lt), .int (lp), .int (lh), .int (lht), .int (lpa), .int (lla), .ref (it + 1), .ref (it + 3)])) ∧ (hx_D (r.toInt = 0) (hx_F w (sp_where w cl j).1 (sp_where w cl j).2.1 fk1 fp1) ((sp_where w cl j).1 = 0 ∧ hx_O w (sp_where w cl j).2.1 fk fp fk1 fp1 st1 nx1 tk1 ∧ lo1.toInt = (sp_where w cl j).2.2)) ∧ (r.toInt = 0 ∨ r.toInt = 1) ∧ (-1 ≤ lo1.toInt ∧ lo1.toInt < 30)))) 0 0 := by
  refine hp_walk (R0 := RX7) (by decide) rfl ?_ (Nat.le_of_ble_eq_true rfl)
  intro p e s m below meth c ls hx hb hr hts hown hlocks hin hml hZ hl
  have hP : hq_P cs G (fun _ => true) V V := hq_P.rf hI
  have hl : lv_has ls 2 [(0, .ref (kb + 2)), (1, .ref (it))] := hl
  have hb_fk := hq_rng fk
  have hb_fp := hq_rng fp
  have hb_nx := hq_rng nx
  have hb_tk := hq_rng tk
  have hb_st := hq_rng st
  have hb_nz := hq_rng nz
  have hb_lk := hq_rng lk
  have hb_lo := hq_rng lo
  have hb_lt := hq_rng lt
  have hb_lp := hq_rng lp
  have hb_lh := hq_rng lh
  have hb_lht := hq_rng lht
  have hb_lpa := hq_rng lpa
  have hb_lla := hq_rng lla
  have hb_bc := hq_rng bc
  have hb_bv := hq_rng bv
  have hb_bl := hq_rng bl
  have hf_2 := hq_rgB hI hy4 hc2
  obtain ⟨b1, b2, b3, b4⟩ := id hA
  obtain ⟨⟨g1, hg1, hr1⟩, ⟨g2, hg2, hr2⟩, ⟨g3, hg3, hr3⟩⟩ := id hp1
  have hlenc := hp2.1
  refine lv_aload_n hx hb dX7_takeWhere_0 rfl (lv_at hl 0 rfl) ?_
  refine hp_get (v := .int (tk)) hx hb hts hown hZ hc0 fl_X7_45 rfl dX7_takeWhere_1 ?_
  refine lv_bipush (v := 14) hx hb dX7_takeWhere_4 (by decide) ?_
  refine lv_icmp_ne (tgt := 15) hx hb dX7_takeWhere_6 (by decide) (fun c5 => ?_) (fun c5 => ?_)
  · have c5 : ¬ (tk).toInt = (14 : Int) := fun h9 => c5 (hq_eqi.mpr h9)
    refine lv_aload_n hx hb dX7_takeWhere_15 rfl (lv_at hl 1 rfl) ?_
    refine lv_aload_n hx hb dX7_takeWhere_16 rfl (lv_at hl 0 rfl) ?_
    refine lv_bipush (v := 15) hx hb dX7_takeWhere_17 (by decide) ?_
    have hl6 : (15 : Int32).toInt = 15 := by decide
    refine hp_calli (hp_runV (As := [.int (15)]) (rest := [.ref (it)]) hx hb hml hown hts (x_take l D cs B G V n hP.1 (kb) (qb) (w) (j) (15) (15) (fk) (fp) (nx) (tk) (st) hy0 hy1 hy2 hc0 hp0 hA (by decide) (by decide)) hZ hc0 cv_X7_58 rfl rfl ⟨Nat.le_of_ble_eq_true rfl, Nat.le_of_ble_eq_true rfl⟩ rfl hl.1 rfl (Nat.le_of_ble_eq_true rfl) dX7_takeWhere_19 ⟨(Nat.le_of_ble_eq_true rfl), (Nat.le_of_ble_eq_true rfl)⟩) hZ (fun r10 V7 n8 _ _ hw9 hZ => ?_)
    obtain ⟨rfl, hq11, fr12, z13, z14, z15, z16, z17, ho18, hp19, hp20⟩ := hw9
    have b21 := hq_rng z13
    have b22 := hq_rng z14
    have b23 := hq_rng z15
    have b24 := hq_rng z16
    have b25 := hq_rng z17
    have hP := hP.trans hq11 (fun _ h => Bool.noConfusion h)
    have b26 := hq_rng r10
    refine lv_if_eq (tgt := 46) hx hb dX7_takeWhere_22 (by decide) (fun c27 => ?_) (fun c27 => ?_)
    · have c27 : (r10).toInt = (0 : Int) := hq_eqi.mp c27
      have hF28 := hx_D.pos hp19 (by omega)
      have b29 := hF28.1
      have b30 := hF28.2.1
      refine lv_iconst (v := -1) hx hb dX7_takeWhere_46 (by decide) ?_
      have fx31 : V7 (it) = some (.inr (5, [.int (lk), .int (lo), .int (lt), .int (lp), .int (lh), .int (lht), .int (lpa), .int (lla), .ref (it + 1), .ref (it + 3)])) := (fr12 (it) (hq_tne hy5 hy2 (by simp))).trans (hc3)
      refine hp_put hx hb hts hown hZ fx31 fp_X7_138 rfl rfl (Nat.le_of_ble_eq_true rfl) dX7_takeWhere_47 (fun V32 _ _ e33 o34 hZ => ?_)
      have e33 : V32 (it) = some (.inr (5, [.int (lk), .int (-1), .int (lt), .int (lp), .int (lh), .int (lht), .int (lpa), .int (lla), .ref (it + 1), .ref (it + 3)])) := e33
      have hP := hP.put hy5 e33 o34 (hq_c5 hy6 hy8 (show -1 ≤ (lh).toInt by omega) (show (lh).toInt ≤ 29 by omega)) rfl
      refine lv_aload_n hx hb dX7_takeWhere_50 rfl (lv_at hl 1 rfl) ?_
      refine hp_get (v := .int (-1)) hx hb hts hown hZ e33 fl_X7_138 rfl dX7_takeWhere_51 ?_
      refine lv_iconst (v := -1) hx hb dX7_takeWhere_54 (by decide) ?_
      refine lv_icmp_eq (tgt := 62) hx hb dX7_takeWhere_55 (by decide) (fun c35 => ?_) (fun c35 => absurd (by decide) c35)
      refine lv_iconst (v := 0) hx hb dX7_takeWhere_62 (by decide) ?_
      have hl36 : (0 : Int32).toInt = 0 := by decide
      have fx37 : V32 (kb + 2) = some (.inr (7, [.int (z13), .int (z14), .ref (kb), .ref (qb), .int (z15), .int (z16), .int (z17), .ref (kb + 3)])) := (o34 (kb + 2) (hq_tne hy2 hy5 (by simp))).trans (ho18)
      have fx38 : V32 (kb + 3) = some (.inr (9, [.ref (kb + 3 + 1), .int (nz)])) := (o34 (kb + 3) (hq_tne hy3 hy5 (by simp))).trans ((fr12 (kb + 3) (hq_tne hy3 hy2 (by simp))).trans (hc1))
      have fx39 : V32 (kb + 4) = some (.inl (cs 0, 12, .inl (nf))) := (o34 (kb + 4) (hq_tne hy4 hy5 (by simp))).trans ((fr12 (kb + 4) (hq_tne hy4 hy2 (by simp))).trans (hc2))
      have hl40 : (-1 : Int32).toInt = -1 := by decide
      exact hp_zret hx hb hr rfl hlocks hZ ⟨rfl, hP, (fun x8 hne0 hne1 hne2 hne3 => (o34 x8 hne3).trans (fr12 x8 hne0)), z13, z14, z15, z16, z17, nz, nf, -1, fx37, fx38, fx39, e33, hx_D.l (by omega) (by unfold sp_where; (repeat (first | (rw [if_pos]; rotate_left; omega) | (rw [if_neg]; rotate_left; omega))); (try dsimp only); first | exact hF28 | exact ⟨by omega, by omega, by omega⟩), by omega, by omega⟩ dX7_takeWhere_63
    · have c27 : ¬ (r10).toInt = (0 : Int) := fun h9 => c27 (hq_eqi.mpr h9)
      obtain ⟨b41, ⟨b42, b43, hA44⟩⟩ := hx_D.neg hp19 (by omega)
      obtain ⟨b45, b46, b47, b48⟩ := id hA44
      refine lv_aload_n hx hb dX7_takeWhere_25 rfl (lv_at hl 0 rfl) ?_
      refine lv_aload_n hx hb dX7_takeWhere_26 rfl (lv_at hl 0 rfl) ?_
      refine hp_get (v := .ref (qb)) hx hb hts hown hZ ho18 fl_X7_30 rfl dX7_takeWhere_27 ?_
      have fx49 : V7 (qb) = some (.inr (0, [.ref (qb + 1), .int (bc), .ref (qb + 14), .ref (qb + 75), .int (bv), .ref (qb + 76), .int (bl)])) := (fr12 (qb) (by omega)).trans (hc4)
      refine hp_get (v := .ref (qb + 1)) hx hb hts hown hZ fx49 fl_X7_68 rfl dX7_takeWhere_30 ?_
      refine lv_aload_n hx hb dX7_takeWhere_33 rfl (lv_at hl 0 rfl) ?_
      refine hp_get (v := .ref (qb)) hx hb hts hown hZ ho18 fl_X7_30 rfl dX7_takeWhere_34 ?_
      refine hp_get (v := .int (bc)) hx hb hts hown hZ fx49 fl_X7_62 rfl dX7_takeWhere_37 ?_
      have fx50 : V7 (kb + 3) = some (.inr (9, [.ref (kb + 3 + 1), .int (nz)])) := (fr12 (kb + 3) (hq_tne hy3 hy2 (by simp))).trans (hc1)
      have fx51 : V7 (kb + 4) = some (.inl (cs 0, 12, .inl (nf))) := (fr12 (kb + 4) (hq_tne hy4 hy2 (by simp))).trans (hc2)
      have fx52 : V7 (qb + 1) = some (.inl (cs 7, 6, .inr (.inr (.inr (.inr (g1)))))) := (fr12 (qb + 1) (by omega)).trans (hg1)
      have pk53 := hp0.keep (fr12 (kb) (hq_tne hy0 hy2 (by simp))) (fr12 (kb + 1) (hq_tne hy1 hy2 (by simp)))
      have pk54 := hp2.keep (fun x7 (hx7 : qb + 2 ≤ x7 ∧ x7 < qb + 2 + 2 * cl.length) => fr12 x7 (by omega))
      refine hp_calli (hp_runV (As := [.ref (qb + 1), .int (bc)]) (rest := [.ref (it)]) hx hb hml hown hts (x_takeName l D cs B G V7 n hP.1 (kb) (qb) (w) ((sp_take w 15 j).2) (qb + 1) (qb + 2) (6) (cl) (bc) (g1) (z13) (z14) (z15) (z16) (z17) (nz) (nf) hy0 hy1 hy2 hy3 hy4 ho18 fx50 fx51 fx52 pk53 hA44 hr1 pk54 hbc (by decide) (by omega)) hZ ho18 cv_X7_90 rfl rfl ⟨Nat.le_of_ble_eq_true rfl, Nat.le_of_ble_eq_true rfl⟩ rfl hl.1 rfl (Nat.le_of_ble_eq_true rfl) dX7_takeWhere_40 ⟨(Nat.le_of_ble_eq_true rfl), (Nat.le_of_ble_eq_true rfl)⟩) hZ (fun r58 V55 n56 _ _ hw57 hZ => ?_)
      obtain ⟨rfl, hq59, fr60, z61, z62, z63, z64, z65, z66, u67, ho68, ho69, ho70, hp71, hp72⟩ := hw57
      have b73 := hq_rng z61
      have b74 := hq_rng z62
      have b75 := hq_rng z63
      have b76 := hq_rng z64
      have b77 := hq_rng z65
      have b78 := hq_rng z66
      have hP := hP.trans hq59 (fun _ h => Bool.noConfusion h)
      have hf79 := hq_rgB hP.1 hy4 ho70
      have b80 := hq_rng r58
      refine lv_goto (tgt := 47) hx hb dX7_takeWhere_43 (by decide) ?_
      have fx81 : V55 (it) = some (.inr (5, [.int (lk), .int (lo), .int (lt), .int (lp), .int (lh), .int (lht), .int (lpa), .int (lla), .ref (it + 1), .ref (it + 3)])) := (fr60 (it) (hq_tne hy5 hy2 (by simp)) (hq_tne hy5 hy3 (by simp)) (hq_tne hy5 hy4 (by simp))).trans ((fr12 (it) (hq_tne hy5 hy2 (by simp))).trans (hc3))
      refine hp_put hx hb hts hown hZ fx81 fp_X7_138 rfl rfl (Nat.le_of_ble_eq_true rfl) dX7_takeWhere_47 (fun V82 _ _ e83 o84 hZ => ?_)
      have e83 : V82 (it) = some (.inr (5, [.int (lk), .int (r58), .int (lt), .int (lp), .int (lh), .int (lht), .int (lpa), .int (lla), .ref (it + 1), .ref (it + 3)])) := e83
      have hP := hP.put hy5 e83 o84 (hq_c5 hy6 hy8 (show -1 ≤ (lh).toInt by omega) (show (lh).toInt ≤ 29 by omega)) rfl
      refine lv_aload_n hx hb dX7_takeWhere_50 rfl (lv_at hl 1 rfl) ?_
      refine hp_get (v := .int (r58)) hx hb hts hown hZ e83 fl_X7_138 rfl dX7_takeWhere_51 ?_
      refine lv_iconst (v := -1) hx hb dX7_takeWhere_54 (by decide) ?_
      refine lv_icmp_eq (tgt := 62) hx hb dX7_takeWhere_55 (by decide) (fun c85 => ?_) (fun c85 => ?_)
      · have c85 : (r58).toInt = (-1 : Int) := hq_eqi.mp c85
        have hF86 := hx_D.pos hp71 (by omega)
        have b87 := hF86.1
        have b88 := hF86.2.1
        refine lv_iconst (v := 0) hx hb dX7_takeWhere_62 (by decide) ?_
        have hl89 : (0 : Int32).toInt = 0 := by decide
        have fx90 : V82 (kb + 2) = some (.inr (7, [.int (z61), .int (z62), .ref (kb), .ref (qb), .int (z63), .int (z64), .int (z65), .ref (kb + 3)])) := (o84 (kb + 2) (hq_tne hy2 hy5 (by simp))).trans (ho68)
        have fx91 : V82 (kb + 3) = some (.inr (9, [.ref (kb + 4), .int (z66)])) := (o84 (kb + 3) (hq_tne hy3 hy5 (by simp))).trans (ho69)
        have fx92 : V82 (kb + 4) = some (.inl (cs 0, 12, .inl (u67))) := (o84 (kb + 4) (hq_tne hy4 hy5 (by simp))).trans (ho70)
        exact hp_zret hx hb hr rfl hlocks hZ ⟨rfl, hP, (fun x8 hne0 hne1 hne2 hne3 => (o84 x8 hne3).trans ((fr60 x8 hne0 hne1 hne2).trans (fr12 x8 hne0))), z61, z62, z63, z64, z65, z66, u67, r58, fx90, fx91, fx92, e83, hx_D.l (by omega) (by unfold sp_where; (repeat (first | (rw [if_pos]; rotate_left; omega) | (rw [if_neg]; rotate_left; omega))); (try dsimp only); first | exact hF86 | exact ⟨by omega, by omega, by omega⟩), by omega, by omega⟩ dX7_takeWhere_63
      · have c85 : ¬ (r58).toInt = (-1 : Int) := fun h9 => c85 (hq_eqi.mpr h9)
        obtain ⟨b93, ⟨b94, b95, hA96⟩, b97⟩ := hx_D.neg hp71 (by omega)
        obtain ⟨b98, b99, b100, b101⟩ := id hA96
        refine lv_iconst (v := 1) hx hb dX7_takeWhere_58 (by decide) ?_
        refine lv_goto (tgt := 63) hx hb dX7_takeWhere_59 (by decide) ?_
        have hl102 : (1 : Int32).toInt = 1 := by decide
        have fx103 : V82 (kb + 2) = some (.inr (7, [.int (z61), .int (z62), .ref (kb), .ref (qb), .int (z63), .int (z64), .int (z65), .ref (kb + 3)])) := (o84 (kb + 2) (hq_tne hy2 hy5 (by simp))).trans (ho68)
        have fx104 : V82 (kb + 3) = some (.inr (9, [.ref (kb + 4), .int (z66)])) := (o84 (kb + 3) (hq_tne hy3 hy5 (by simp))).trans (ho69)
        have fx105 : V82 (kb + 4) = some (.inl (cs 0, 12, .inl (u67))) := (o84 (kb + 4) (hq_tne hy4 hy5 (by simp))).trans (ho70)
        exact hp_zret hx hb hr rfl hlocks hZ ⟨rfl, hP, (fun x8 hne0 hne1 hne2 hne3 => (o84 x8 hne3).trans ((fr60 x8 hne0 hne1 hne2).trans (fr12 x8 hne0))), z61, z62, z63, z64, z65, z66, u67, r58, fx103, fx104, fx105, e83, hx_D.r (by omega) (by unfold sp_where; (repeat (first | (rw [if_pos]; rotate_left; omega) | (rw [if_neg]; rotate_left; omega))); (try dsimp only); exact ⟨by first | rfl | omega, ⟨by omega, by omega, hA96⟩, by omega⟩), by omega, by omega⟩ dX7_takeWhere_63
  · have c5 : (tk).toInt = (14 : Int) := hq_eqi.mp c5
    refine lv_aload_n hx hb dX7_takeWhere_9 rfl (lv_at hl 0 rfl) ?_
    refine hp_callv (hp_runV (As := []) (rest := []) hx hb hml hown hts (x_next l D cs B G V n hP.1 (kb) (qb) (w) (j) (fk) (fp) (nx) (tk) (st) hy0 hy1 hy2 hc0 hp0 hA (by omega)) hZ hc0 cv_X7_42 rfl rfl ⟨Nat.le_of_ble_eq_true rfl, Nat.le_of_ble_eq_true rfl⟩ rfl hl.1 rfl (Nat.le_of_ble_eq_true rfl) dX7_takeWhere_10 ⟨(Nat.le_of_ble_eq_true rfl), (Nat.le_of_ble_eq_true rfl)⟩) hZ (fun V106 n107 _ _ hw108 hZ => ?_)
    obtain ⟨rfl, hq110, fr111, z112, z113, z114, ho115, hp116⟩ := hw108
    have b117 := hq_rng z112
    have b118 := hq_rng z113
    have b119 := hq_rng z114
    have hP := hP.trans hq110 (fun _ h => Bool.noConfusion h)
    obtain ⟨b120, b121, b122, b123⟩ := id hp116
    refine lv_iconst (v := 1) hx hb dX7_takeWhere_13 (by decide) ?_
    have hl124 : (1 : Int32).toInt = 1 := by decide
    have fx125 : V106 (kb + 3) = some (.inr (9, [.ref (kb + 3 + 1), .int (nz)])) := (fr111 (kb + 3) (hq_tne hy3 hy2 (by simp))).trans (hc1)
    have fx126 : V106 (kb + 4) = some (.inl (cs 0, 12, .inl (nf))) := (fr111 (kb + 4) (hq_tne hy4 hy2 (by simp))).trans (hc2)
    have fx127 : V106 (it) = some (.inr (5, [.int (lk), .int (lo), .int (lt), .int (lp), .int (lh), .int (lht), .int (lpa), .int (lla), .ref (it + 1), .ref (it + 3)])) := (fr111 (it) (hq_tne hy5 hy2 (by simp))).trans (hc3)
    exact hp_zret hx hb hr rfl hlocks hZ ⟨rfl, hP, (fun x8 hne0 hne1 hne2 hne3 => fr111 x8 hne0), fk, fp, z112, z113, z114, nz, nf, lo, ho115, fx125, fx126, fx127, hx_D.r (by omega) (by unfold sp_where; (repeat (first | (rw [if_pos]; rotate_left; omega) | (rw [if_neg]; rotate_left; omega))); (try dsimp only); exact ⟨by first | rfl | omega, ⟨by omega, by omega, hp116⟩, by omega⟩), by omega, by omega⟩ dX7_takeWhere_14

set_option maxHeartbeats 4000000 in
set_option maxRecDepth 100000 in
theorem x_takeOwner (l : Launch) (D : va_G) (cs : Nat → ClassId) (B : Nat) (G : hq_G) (V : hp_V) (n : Nat) (hI : hq_I cs G V) (kb : Nat) (qb : Nat) (w : sp_W) (it : Nat) (bb : Nat) (j : Nat) (vn : List Nat) (fk : Int32) (fp : Int32) (nx : Int32) (tk : Int32) (st : Int32) (nz : Int32) (nf : Nat → Int32) (lk : Int32) (lo : Int32) (lt : Int32) (lp : Int32) (lh : Int32) (lht : Int32) (lpa : Int32) (lla : Int32) (bc : Int32) (bv : Int32) (bl : Int32) (hy0 : G (kb) = some (0, 4000, 0, 0)) (hy1 : G (kb + 1) = some (1, 4000, 0, 0)) (hy2 : G (kb + 2) = some (10, 0, 0, 0)) (hy3 : G (kb + 3) = some (0, 12, 0, 0)) (hy4 : G (kb + 4) = some (1, 12, 0, 0)) (hy5 : G (it) = some (5, bb, 0, 0)) (hy6 : G (it + 1) = some (0, 8, 0, 0)) (hy7 : G (it + 2) = some (1, 8, 0, 0)) (hy8 : G (it + 3) = some (0, 8, 0, 0)) (hy9 : G (it + 4) = some (1, 8, 0, 0)) (hc0 : V (kb + 2) = some (.inr (7, [.int (fk), .int (fp), .ref (kb), .ref (qb), .int (nx), .int (tk), .int (st), .ref (kb + 3)]))) (hc1 : V (kb + 3) = some (.inr (9, [.ref (kb + 3 + 1), .int (nz)]))) (hc2 : V (kb + 4) = some (.inl (cs 0, 12, .inl (nf)))) (hc3 : V (it) = some (.inr (5, [.int (lk), .int (lo), .int (lt), .int (lp), .int (lh), .int (lht), .int (lpa), .int (lla), .ref (it + 1), .ref (it + 3)]))) (hc4 : V (qb) = some (.inr (0, [.ref (qb + 1), .int (bc), .ref (qb + 14), .ref (qb + 75), .int (bv), .ref (qb + 76), .int (bl)]))) (hp0 : hx_TP cs V kb w) (hp1 : hx_BS cs V qb) (hp2 : hx_NL cs V (qb + 15) 30 w vn) (hA : hx_A w j st nx tk) (hq : kb + 88 ≤ qb) (hit : qb + 77 ≤ it ∧ it + 5 ≤ qb + 377) (hh : -1 ≤ lh.toInt ∧ lh.toInt ≤ 29) (hlo : lo.toInt = -1) (hbv : bv.toInt = (vn.length : Int)) : hp_M l yX7_takeOwner cX7_takeOwner 2 (some .boolean) ({ frames := 8, cells := 0, slots := 0, locals := 175 }) D cs B V n [.ref (kb + 2), .ref (it)] (hp_QI D cs B (fun r V' n' => n = n' ∧ hq_P cs G (fun _ => true) V V' ∧ (∀ x, x ≠ kb + 2 → x ≠ kb + 3 → x ≠ kb + 4 → x ≠ it → V' x = V x) ∧ (∃ fk1 : Int32, ∃ fp1 : Int32, ∃ nx1 : Int32, ∃ tk1 : Int32, ∃ st1 : Int32, ∃ nz1 : Int32, ∃ nf1 : Nat → Int32, ∃ lo1 : Int32, V' (kb + 2) = some (.inr (7, [.int (fk1), .int (fp1), .ref (kb), .ref (qb), .int (nx1), .int (tk1), .int (st1), .ref (kb + 3)])) ∧ V' (kb + 3) = some (.inr (9, [.ref (kb + 3 + 1), .int (nz1)])) ∧ V' (kb + 4) = some (.inl (cs 0, 12, .inl (nf1))) ∧ V' (it) = some (.inr (5, [.int (lk), .int (lo1), .int (lt), .int (lp), .int (lh), .int (lht), .int (lpa), .int (lla), .ref (it + 1), .ref (it + 3)])) ∧ (hx_D (r.toInt = 0) (hx_F w (sp_old w vn j).1 (sp_old w vn j).2.1 fk1 fp1) ((sp_old w vn j).1 = 0 ∧ hx_O w (sp_old w vn j).2.1 fk fp fk1 fp1 st1 nx1 tk1 ∧ lo1.toInt = (sp_old w vn j).2.2)) ∧ (r.toInt = 0 ∨ r.toInt = 1) ∧ (-1 ≤ lo1.toInt ∧ lo1.toInt < 30)))) 0 0 := by
  refine hp_walk (R0 := RX7) (by decide) rfl ?_ (Nat.le_of_ble_eq_true rfl)
  intro p e s m below meth c ls hx hb hr hts hown hlocks hin hml hZ hl
  have hP : hq_P cs G (fun _ => true) V V := hq_P.rf hI
  have hl : lv_has ls 2 [(0, .ref (kb + 2)), (1, .ref (it))] := hl
  have hb_fk := hq_rng fk
  have hb_fp := hq_rng fp
  have hb_nx := hq_rng nx
  have hb_tk := hq_rng tk
  have hb_st := hq_rng st
  have hb_nz := hq_rng nz
  have hb_lk := hq_rng lk
  have hb_lo := hq_rng lo
  have hb_lt := hq_rng lt
  have hb_lp := hq_rng lp
  have hb_lh := hq_rng lh
  have hb_lht := hq_rng lht
  have hb_lpa := hq_rng lpa
  have hb_lla := hq_rng lla
  have hb_bc := hq_rng bc
  have hb_bv := hq_rng bv
  have hb_bl := hq_rng bl
  have hf_2 := hq_rgB hI hy4 hc2
  obtain ⟨b1, b2, b3, b4⟩ := id hA
  obtain ⟨⟨g1, hg1, hr1⟩, ⟨g2, hg2, hr2⟩, ⟨g3, hg3, hr3⟩⟩ := id hp1
  have hlenv := hp2.1
  refine lv_aload_n hx hb dX7_takeOwner_0 rfl (lv_at hl 1 rfl) ?_
  refine lv_aload_n hx hb dX7_takeOwner_1 rfl (lv_at hl 0 rfl) ?_
  refine lv_aload_n hx hb dX7_takeOwner_2 rfl (lv_at hl 0 rfl) ?_
  refine hp_get (v := .ref (qb)) hx hb hts hown hZ hc0 fl_X7_30 rfl dX7_takeOwner_3 ?_
  refine hp_get (v := .ref (qb + 14)) hx hb hts hown hZ hc4 fl_X7_83 rfl dX7_takeOwner_6 ?_
  refine lv_aload_n hx hb dX7_takeOwner_9 rfl (lv_at hl 0 rfl) ?_
  refine hp_get (v := .ref (qb)) hx hb hts hown hZ hc0 fl_X7_30 rfl dX7_takeOwner_10 ?_
  refine hp_get (v := .int (bv)) hx hb hts hown hZ hc4 fl_X7_80 rfl dX7_takeOwner_13 ?_
  refine hp_calli (hp_runV (As := [.ref (qb + 14), .int (bv)]) (rest := [.ref (it)]) hx hb hml hown hts (x_takeName l D cs B G V n hP.1 (kb) (qb) (w) (j) (qb + 14) (qb + 15) (30) (vn) (bv) (g2) (fk) (fp) (nx) (tk) (st) (nz) (nf) hy0 hy1 hy2 hy3 hy4 hc0 hc1 hc2 hg2 hp0 hA hr2 hp2 hbv (by decide) (by omega)) hZ hc0 cv_X7_90 rfl rfl ⟨Nat.le_of_ble_eq_true rfl, Nat.le_of_ble_eq_true rfl⟩ rfl hl.1 rfl (Nat.le_of_ble_eq_true rfl) dX7_takeOwner_16 ⟨(Nat.le_of_ble_eq_true rfl), (Nat.le_of_ble_eq_true rfl)⟩) hZ (fun r8 V5 n6 _ _ hw7 hZ => ?_)
  obtain ⟨rfl, hq9, fr10, z11, z12, z13, z14, z15, z16, u17, ho18, ho19, ho20, hp21, hp22⟩ := hw7
  have b23 := hq_rng z11
  have b24 := hq_rng z12
  have b25 := hq_rng z13
  have b26 := hq_rng z14
  have b27 := hq_rng z15
  have b28 := hq_rng z16
  have hP := hP.trans hq9 (fun _ h => Bool.noConfusion h)
  have hf29 := hq_rgB hP.1 hy4 ho20
  have b30 := hq_rng r8
  have fx31 : V5 (it) = some (.inr (5, [.int (lk), .int (lo), .int (lt), .int (lp), .int (lh), .int (lht), .int (lpa), .int (lla), .ref (it + 1), .ref (it + 3)])) := (fr10 (it) (hq_tne hy5 hy2 (by simp)) (hq_tne hy5 hy3 (by simp)) (hq_tne hy5 hy4 (by simp))).trans (hc3)
  refine hp_put hx hb hts hown hZ fx31 fp_X7_138 rfl rfl (Nat.le_of_ble_eq_true rfl) dX7_takeOwner_19 (fun V32 _ _ e33 o34 hZ => ?_)
  have e33 : V32 (it) = some (.inr (5, [.int (lk), .int (r8), .int (lt), .int (lp), .int (lh), .int (lht), .int (lpa), .int (lla), .ref (it + 1), .ref (it + 3)])) := e33
  have hP := hP.put hy5 e33 o34 (hq_c5 hy6 hy8 (show -1 ≤ (lh).toInt by omega) (show (lh).toInt ≤ 29 by omega)) rfl
  refine lv_aload_n hx hb dX7_takeOwner_22 rfl (lv_at hl 1 rfl) ?_
  refine hp_get (v := .int (r8)) hx hb hts hown hZ e33 fl_X7_138 rfl dX7_takeOwner_23 ?_
  refine lv_iconst (v := -1) hx hb dX7_takeOwner_26 (by decide) ?_
  refine lv_icmp_eq (tgt := 34) hx hb dX7_takeOwner_27 (by decide) (fun c35 => ?_) (fun c35 => ?_)
  · have c35 : (r8).toInt = (-1 : Int) := hq_eqi.mp c35
    have hF36 := hx_D.pos hp21 (by omega)
    have b37 := hF36.1
    have b38 := hF36.2.1
    refine lv_iconst (v := 0) hx hb dX7_takeOwner_34 (by decide) ?_
    have hl39 : (0 : Int32).toInt = 0 := by decide
    have fx40 : V32 (kb + 2) = some (.inr (7, [.int (z11), .int (z12), .ref (kb), .ref (qb), .int (z13), .int (z14), .int (z15), .ref (kb + 3)])) := (o34 (kb + 2) (hq_tne hy2 hy5 (by simp))).trans (ho18)
    have fx41 : V32 (kb + 3) = some (.inr (9, [.ref (kb + 4), .int (z16)])) := (o34 (kb + 3) (hq_tne hy3 hy5 (by simp))).trans (ho19)
    have fx42 : V32 (kb + 4) = some (.inl (cs 0, 12, .inl (u17))) := (o34 (kb + 4) (hq_tne hy4 hy5 (by simp))).trans (ho20)
    exact hp_zret hx hb hr rfl hlocks hZ ⟨rfl, hP, (fun x8 hne0 hne1 hne2 hne3 => (o34 x8 hne3).trans (fr10 x8 hne0 hne1 hne2)), z11, z12, z13, z14, z15, z16, u17, r8, fx40, fx41, fx42, e33, hx_D.l (by omega) hF36, by omega, by omega⟩ dX7_takeOwner_35
  · have c35 : ¬ (r8).toInt = (-1 : Int) := fun h9 => c35 (hq_eqi.mpr h9)
    obtain ⟨b43, ⟨b44, b45, hA46⟩, b47⟩ := hx_D.neg hp21 (by omega)
    obtain ⟨b48, b49, b50, b51⟩ := id hA46
    refine lv_iconst (v := 1) hx hb dX7_takeOwner_30 (by decide) ?_
    refine lv_goto (tgt := 35) hx hb dX7_takeOwner_31 (by decide) ?_
    have hl52 : (1 : Int32).toInt = 1 := by decide
    have fx53 : V32 (kb + 2) = some (.inr (7, [.int (z11), .int (z12), .ref (kb), .ref (qb), .int (z13), .int (z14), .int (z15), .ref (kb + 3)])) := (o34 (kb + 2) (hq_tne hy2 hy5 (by simp))).trans (ho18)
    have fx54 : V32 (kb + 3) = some (.inr (9, [.ref (kb + 4), .int (z16)])) := (o34 (kb + 3) (hq_tne hy3 hy5 (by simp))).trans (ho19)
    have fx55 : V32 (kb + 4) = some (.inl (cs 0, 12, .inl (u17))) := (o34 (kb + 4) (hq_tne hy4 hy5 (by simp))).trans (ho20)
    exact hp_zret hx hb hr rfl hlocks hZ ⟨rfl, hP, (fun x8 hne0 hne1 hne2 hne3 => (o34 x8 hne3).trans (fr10 x8 hne0 hne1 hne2)), z11, z12, z13, z14, z15, z16, u17, r8, fx53, fx54, fx55, e33, hx_D.r (by omega) ⟨by omega, ⟨by omega, by omega, hA46⟩, by omega⟩, by omega, by omega⟩ dX7_takeOwner_35

set_option maxHeartbeats 4000000 in
set_option maxRecDepth 100000 in
theorem x_takeSlot (l : Launch) (D : va_G) (cs : Nat → ClassId) (B : Nat) (G : hq_G) (V : hp_V) (n : Nat) (hI : hq_I cs G V) (kb : Nat) (qb : Nat) (w : sp_W) (it : Nat) (bb : Nat) (j : Nat) (fk : Int32) (fp : Int32) (nx : Int32) (tk : Int32) (st : Int32) (lk : Int32) (lo : Int32) (lt : Int32) (lp : Int32) (lh : Int32) (lht : Int32) (lpa : Int32) (lla : Int32) (hy0 : G (kb) = some (0, 4000, 0, 0)) (hy1 : G (kb + 1) = some (1, 4000, 0, 0)) (hy2 : G (kb + 2) = some (10, 0, 0, 0)) (hy3 : G (it) = some (5, bb, 0, 0)) (hy4 : G (it + 1) = some (0, 8, 0, 0)) (hy5 : G (it + 2) = some (1, 8, 0, 0)) (hy6 : G (it + 3) = some (0, 8, 0, 0)) (hy7 : G (it + 4) = some (1, 8, 0, 0)) (hc0 : V (kb + 2) = some (.inr (7, [.int (fk), .int (fp), .ref (kb), .ref (qb), .int (nx), .int (tk), .int (st), .ref (kb + 3)]))) (hc1 : V (it) = some (.inr (5, [.int (lk), .int (lo), .int (lt), .int (lp), .int (lh), .int (lht), .int (lpa), .int (lla), .ref (it + 1), .ref (it + 3)]))) (hp0 : hx_TP cs V kb w) (hA : hx_A w j st nx tk) (hq : kb + 88 ≤ qb) (hit : qb + 77 ≤ it ∧ it + 5 ≤ qb + 377) (hh : -1 ≤ lh.toInt ∧ lh.toInt ≤ 29) (hlp : lp.toInt = -1) : hp_M l yX7_takeSlot cX7_takeSlot 2 (some .boolean) ({ frames := 8, cells := 0, slots := 0, locals := 174 }) D cs B V n [.ref (kb + 2), .ref (it)] (hp_QI D cs B (fun r V' n' => n = n' ∧ hq_P cs G (fun _ => true) V V' ∧ (∀ x, x ≠ kb + 2 → x ≠ it → V' x = V x) ∧ (∃ fk1 : Int32, ∃ fp1 : Int32, ∃ nx1 : Int32, ∃ tk1 : Int32, ∃ st1 : Int32, ∃ lt1 : Int32, ∃ lp1 : Int32, V' (kb + 2) = some (.inr (7, [.int (fk1), .int (fp1), .ref (kb), .ref (qb), .int (nx1), .int (tk1), .int (st1), .ref (kb + 3)])) ∧ V' (it) = some (.inr (5, [.int (lk), .int (lo), .int (lt1), .int (lp1), .int (lh), .int (lht), .int (lpa), .int (lla), .ref (it + 1), .ref (it + 3)])) ∧ (hx_D (r.toInt = 0) (hx_F w (sp_slot w j).1 (sp_slot w j).2.1 fk1 fp1) ((sp_slot w j).1 = 0 ∧ hx_O w (sp_slot w j).2.1 fk fp fk1 fp1 st1 nx1 tk1 ∧ lt1.toInt = (sp_slot w j).2.2.1 ∧ lp1.toInt = (sp_slot w j).2.2.2)) ∧ (r.toInt = 0 ∨ r.toInt = 1)))) 0 0 := by
  refine hp_walk (R0 := RX7) (by decide) rfl ?_ (Nat.le_of_ble_eq_true rfl)
  intro p e s m below meth c ls hx hb hr hts hown hlocks hin hml hZ hl
  have hP : hq_P cs G (fun _ => true) V V := hq_P.rf hI
  have hl : lv_has ls 2 [(0, .ref (kb + 2)), (1, .ref (it))] := hl
  have hb_fk := hq_rng fk
  have hb_fp := hq_rng fp
  have hb_nx := hq_rng nx
  have hb_tk := hq_rng tk
  have hb_st := hq_rng st
  have hb_lk := hq_rng lk
  have hb_lo := hq_rng lo
  have hb_lt := hq_rng lt
  have hb_lp := hq_rng lp
  have hb_lh := hq_rng lh
  have hb_lht := hq_rng lht
  have hb_lpa := hq_rng lpa
  have hb_lla := hq_rng lla
  obtain ⟨b1, b2, b3, b4⟩ := id hA
  refine lv_aload_n hx hb dX7_takeSlot_0 rfl (lv_at hl 1 rfl) ?_
  refine lv_aload_n hx hb dX7_takeSlot_1 rfl (lv_at hl 0 rfl) ?_
  refine lv_bipush (v := 11) hx hb dX7_takeSlot_2 (by decide) ?_
  have hl5 : (11 : Int32).toInt = 11 := by decide
  refine hp_calli (hp_runV (As := [.int (11)]) (rest := [.ref (it)]) hx hb hml hown hts (x_take l D cs B G V n hP.1 (kb) (qb) (w) (j) (11) (11) (fk) (fp) (nx) (tk) (st) hy0 hy1 hy2 hc0 hp0 hA (by decide) (by decide)) hZ hc0 cv_X7_58 rfl rfl ⟨Nat.le_of_ble_eq_true rfl, Nat.le_of_ble_eq_true rfl⟩ rfl hl.1 rfl (Nat.le_of_ble_eq_true rfl) dX7_takeSlot_4 ⟨(Nat.le_of_ble_eq_true rfl), (Nat.le_of_ble_eq_true rfl)⟩) hZ (fun r9 V6 n7 _ _ hw8 hZ => ?_)
  obtain ⟨rfl, hq10, fr11, z12, z13, z14, z15, z16, ho17, hp18, hp19⟩ := hw8
  have b20 := hq_rng z12
  have b21 := hq_rng z13
  have b22 := hq_rng z14
  have b23 := hq_rng z15
  have b24 := hq_rng z16
  have hP := hP.trans hq10 (fun _ h => Bool.noConfusion h)
  have b25 := hq_rng r9
  refine lv_if_eq (tgt := 18) hx hb dX7_takeSlot_7 (by decide) (fun c26 => ?_) (fun c26 => ?_)
  · have c26 : (r9).toInt = (0 : Int) := hq_eqi.mp c26
    have hF27 := hx_D.pos hp18 (by omega)
    have b28 := hF27.1
    have b29 := hF27.2.1
    refine lv_iconst (v := -1) hx hb dX7_takeSlot_18 (by decide) ?_
    have fx30 : V6 (it) = some (.inr (5, [.int (lk), .int (lo), .int (lt), .int (lp), .int (lh), .int (lht), .int (lpa), .int (lla), .ref (it + 1), .ref (it + 3)])) := (fr11 (it) (hq_tne hy3 hy2 (by simp))).trans (hc1)
    refine hp_put hx hb hts hown hZ fx30 fp_X7_145 rfl rfl (Nat.le_of_ble_eq_true rfl) dX7_takeSlot_19 (fun V31 _ _ e32 o33 hZ => ?_)
    have e32 : V31 (it) = some (.inr (5, [.int (lk), .int (lo), .int (-1), .int (lp), .int (lh), .int (lht), .int (lpa), .int (lla), .ref (it + 1), .ref (it + 3)])) := e32
    have hP := hP.put hy3 e32 o33 (hq_c5 hy4 hy6 (show -1 ≤ (lh).toInt by omega) (show (lh).toInt ≤ 29 by omega)) rfl
    refine lv_aload_n hx hb dX7_takeSlot_22 rfl (lv_at hl 1 rfl) ?_
    refine hp_get (v := .int (-1)) hx hb hts hown hZ e32 fl_X7_145 rfl dX7_takeSlot_23 ?_
    refine lv_iconst (v := -1) hx hb dX7_takeSlot_26 (by decide) ?_
    refine lv_icmp_eq (tgt := 39) hx hb dX7_takeSlot_27 (by decide) (fun c34 => ?_) (fun c34 => absurd (by decide) c34)
    refine lv_aload_n hx hb dX7_takeSlot_39 rfl (lv_at hl 1 rfl) ?_
    refine hp_get (v := .int (-1)) hx hb hts hown hZ e32 fl_X7_145 rfl dX7_takeSlot_40 ?_
    refine lv_iconst (v := -1) hx hb dX7_takeSlot_43 (by decide) ?_
    refine lv_icmp_eq (tgt := 51) hx hb dX7_takeSlot_44 (by decide) (fun c35 => ?_) (fun c35 => absurd (by decide) c35)
    refine lv_iconst (v := 0) hx hb dX7_takeSlot_51 (by decide) ?_
    have hl36 : (0 : Int32).toInt = 0 := by decide
    have fx37 : V31 (kb + 2) = some (.inr (7, [.int (z12), .int (z13), .ref (kb), .ref (qb), .int (z14), .int (z15), .int (z16), .ref (kb + 3)])) := (o33 (kb + 2) (hq_tne hy2 hy3 (by simp))).trans (ho17)
    have hl38 : (-1 : Int32).toInt = -1 := by decide
    exact hp_zret hx hb hr rfl hlocks hZ ⟨rfl, hP, (fun x8 hne0 hne1 => (o33 x8 hne1).trans (fr11 x8 hne0)), z12, z13, z14, z15, z16, -1, lp, fx37, e32, hx_D.l (by omega) (by unfold sp_slot; (repeat (first | (rw [if_pos]; rotate_left; omega) | (rw [if_neg]; rotate_left; omega))); (try dsimp only); first | exact hF27 | exact ⟨by omega, by omega, by omega⟩), by omega⟩ dX7_takeSlot_52
  · have c26 : ¬ (r9).toInt = (0 : Int) := fun h9 => c26 (hq_eqi.mpr h9)
    obtain ⟨b39, ⟨b40, b41, hA42⟩⟩ := hx_D.neg hp18 (by omega)
    obtain ⟨b43, b44, b45, b46⟩ := id hA42
    refine lv_aload_n hx hb dX7_takeSlot_10 rfl (lv_at hl 0 rfl) ?_
    refine lv_iconst (v := 5) hx hb dX7_takeSlot_11 (by decide) ?_
    have hl47 : (5 : Int32).toInt = 5 := by decide
    have pk48 := hp0.keep (fr11 (kb) (hq_tne hy0 hy2 (by simp))) (fr11 (kb + 1) (hq_tne hy1 hy2 (by simp)))
    refine hp_calli (hp_runV (As := [.int (5)]) (rest := [.ref (it)]) hx hb hml hown hts (x_takeNumber l D cs B G V6 n hP.1 (kb) (qb) (w) ((sp_take w 11 j).2) (5) (5) (z12) (z13) (z14) (z15) (z16) hy0 hy1 hy2 ho17 pk48 hA42 (by decide) (by decide)) hZ ho17 cv_X7_141 rfl rfl ⟨Nat.le_of_ble_eq_true rfl, Nat.le_of_ble_eq_true rfl⟩ rfl hl.1 rfl (Nat.le_of_ble_eq_true rfl) dX7_takeSlot_12 ⟨(Nat.le_of_ble_eq_true rfl), (Nat.le_of_ble_eq_true rfl)⟩) hZ (fun r52 V49 n50 _ _ hw51 hZ => ?_)
    obtain ⟨rfl, hq53, fr54, z55, z56, z57, z58, z59, ho60, hp61, hp62⟩ := hw51
    have b63 := hq_rng z55
    have b64 := hq_rng z56
    have b65 := hq_rng z57
    have b66 := hq_rng z58
    have b67 := hq_rng z59
    have hP := hP.trans hq53 (fun _ h => Bool.noConfusion h)
    have b68 := hq_rng r52
    refine lv_goto (tgt := 19) hx hb dX7_takeSlot_15 (by decide) ?_
    have fx69 : V49 (it) = some (.inr (5, [.int (lk), .int (lo), .int (lt), .int (lp), .int (lh), .int (lht), .int (lpa), .int (lla), .ref (it + 1), .ref (it + 3)])) := (fr54 (it) (hq_tne hy3 hy2 (by simp))).trans ((fr11 (it) (hq_tne hy3 hy2 (by simp))).trans (hc1))
    refine hp_put hx hb hts hown hZ fx69 fp_X7_145 rfl rfl (Nat.le_of_ble_eq_true rfl) dX7_takeSlot_19 (fun V70 _ _ e71 o72 hZ => ?_)
    have e71 : V70 (it) = some (.inr (5, [.int (lk), .int (lo), .int (r52), .int (lp), .int (lh), .int (lht), .int (lpa), .int (lla), .ref (it + 1), .ref (it + 3)])) := e71
    have hP := hP.put hy3 e71 o72 (hq_c5 hy4 hy6 (show -1 ≤ (lh).toInt by omega) (show (lh).toInt ≤ 29 by omega)) rfl
    refine lv_aload_n hx hb dX7_takeSlot_22 rfl (lv_at hl 1 rfl) ?_
    refine hp_get (v := .int (r52)) hx hb hts hown hZ e71 fl_X7_145 rfl dX7_takeSlot_23 ?_
    refine lv_iconst (v := -1) hx hb dX7_takeSlot_26 (by decide) ?_
    refine lv_icmp_eq (tgt := 39) hx hb dX7_takeSlot_27 (by decide) (fun c73 => ?_) (fun c73 => ?_)
    · have c73 : (r52).toInt = (-1 : Int) := hq_eqi.mp c73
      have hF74 := hx_D.pos hp61 (by omega)
      have b75 := hF74.1
      have b76 := hF74.2.1
      refine lv_aload_n hx hb dX7_takeSlot_39 rfl (lv_at hl 1 rfl) ?_
      refine hp_get (v := .int (r52)) hx hb hts hown hZ e71 fl_X7_145 rfl dX7_takeSlot_40 ?_
      refine lv_iconst (v := -1) hx hb dX7_takeSlot_43 (by decide) ?_
      have hl77 : (-1 : Int32).toInt = -1 := by decide
      refine lv_icmp_eq (tgt := 51) hx hb dX7_takeSlot_44 (by decide) (fun c78 => ?_) (fun c78 => absurd ((Int32.toInt_inj.mp (by omega) : r52 = -1)) c78)
      refine lv_iconst (v := 0) hx hb dX7_takeSlot_51 (by decide) ?_
      have hl79 : (0 : Int32).toInt = 0 := by decide
      have fx80 : V70 (kb + 2) = some (.inr (7, [.int (z55), .int (z56), .ref (kb), .ref (qb), .int (z57), .int (z58), .int (z59), .ref (kb + 3)])) := (o72 (kb + 2) (hq_tne hy2 hy3 (by simp))).trans (ho60)
      exact hp_zret hx hb hr rfl hlocks hZ ⟨rfl, hP, (fun x8 hne0 hne1 => (o72 x8 hne1).trans ((fr54 x8 hne0).trans (fr11 x8 hne0))), z55, z56, z57, z58, z59, r52, lp, fx80, e71, hx_D.l (by omega) (by unfold sp_slot; (repeat (first | (rw [if_pos]; rotate_left; omega) | (rw [if_neg]; rotate_left; omega))); (try dsimp only); first | exact hF74 | exact ⟨by omega, by omega, by omega⟩), by omega⟩ dX7_takeSlot_52
    · have c73 : ¬ (r52).toInt = (-1 : Int) := fun h9 => c73 (hq_eqi.mpr h9)
      obtain ⟨b81, ⟨b82, b83, hA84⟩, b85⟩ := hx_D.neg hp61 (by omega)
      obtain ⟨b86, b87, b88, b89⟩ := id hA84
      refine lv_aload_n hx hb dX7_takeSlot_30 rfl (lv_at hl 0 rfl) ?_
      have fx90 : V70 (kb + 2) = some (.inr (7, [.int (z55), .int (z56), .ref (kb), .ref (qb), .int (z57), .int (z58), .int (z59), .ref (kb + 3)])) := (o72 (kb + 2) (hq_tne hy2 hy3 (by simp))).trans (ho60)
      refine hp_get (v := .int (z58)) hx hb hts hown hZ fx90 fl_X7_45 rfl dX7_takeSlot_31 ?_
      refine lv_bipush (v := 16) hx hb dX7_takeSlot_34 (by decide) ?_
      refine lv_icmp_eq (tgt := 53) hx hb dX7_takeSlot_36 (by decide) (fun c91 => ?_) (fun c91 => ?_)
      · have c91 : (z58).toInt = (16 : Int) := hq_eqi.mp c91
        refine lv_aload_n hx hb dX7_takeSlot_53 rfl (lv_at hl 0 rfl) ?_
        have pk92 := pk48.keep ((o72 (kb) (hq_tne hy0 hy3 (by simp))).trans (fr54 (kb) (hq_tne hy0 hy2 (by simp)))) ((o72 (kb + 1) (hq_tne hy1 hy3 (by simp))).trans (fr54 (kb + 1) (hq_tne hy1 hy2 (by simp))))
        refine hp_callv (hp_runV (As := []) (rest := []) hx hb hml hown hts (x_next l D cs B G V70 n hP.1 (kb) (qb) (w) ((sp_num w 5 ((sp_take w 11 j).2)).2.1) (z55) (z56) (z57) (z58) (z59) hy0 hy1 hy2 fx90 pk92 hA84 (by omega)) hZ fx90 cv_X7_42 rfl rfl ⟨Nat.le_of_ble_eq_true rfl, Nat.le_of_ble_eq_true rfl⟩ rfl hl.1 rfl (Nat.le_of_ble_eq_true rfl) dX7_takeSlot_54 ⟨(Nat.le_of_ble_eq_true rfl), (Nat.le_of_ble_eq_true rfl)⟩) hZ (fun V93 n94 _ _ hw95 hZ => ?_)
        obtain ⟨rfl, hq97, fr98, z99, z100, z101, ho102, hp103⟩ := hw95
        have b104 := hq_rng z99
        have b105 := hq_rng z100
        have b106 := hq_rng z101
        have hP := hP.trans hq97 (fun _ h => Bool.noConfusion h)
        obtain ⟨b107, b108, b109, b110⟩ := id hp103
        refine lv_aload_n hx hb dX7_takeSlot_57 rfl (lv_at hl 1 rfl) ?_
        refine lv_aload_n hx hb dX7_takeSlot_58 rfl (lv_at hl 0 rfl) ?_
        refine lv_bipush (v := 6) hx hb dX7_takeSlot_59 (by decide) ?_
        have hl111 : (6 : Int32).toInt = 6 := by decide
        have pk112 := pk92.keep (fr98 (kb) (hq_tne hy0 hy2 (by simp))) (fr98 (kb + 1) (hq_tne hy1 hy2 (by simp)))
        refine hp_calli (hp_runV (As := [.int (6)]) (rest := [.ref (it)]) hx hb hml hown hts (x_takeNumber l D cs B G V93 n hP.1 (kb) (qb) (w) ((sp_num w 5 ((sp_take w 11 j).2)).2.1 + 1) (6) (6) (z55) (z56) (z99) (z100) (z101) hy0 hy1 hy2 ho102 pk112 hp103 (by decide) (by decide)) hZ ho102 cv_X7_141 rfl rfl ⟨Nat.le_of_ble_eq_true rfl, Nat.le_of_ble_eq_true rfl⟩ rfl hl.1 rfl (Nat.le_of_ble_eq_true rfl) dX7_takeSlot_61 ⟨(Nat.le_of_ble_eq_true rfl), (Nat.le_of_ble_eq_true rfl)⟩) hZ (fun r116 V113 n114 _ _ hw115 hZ => ?_)
        obtain ⟨rfl, hq117, fr118, z119, z120, z121, z122, z123, ho124, hp125, hp126⟩ := hw115
        have b127 := hq_rng z119
        have b128 := hq_rng z120
        have b129 := hq_rng z121
        have b130 := hq_rng z122
        have b131 := hq_rng z123
        have hP := hP.trans hq117 (fun _ h => Bool.noConfusion h)
        have b132 := hq_rng r116
        have fx133 : V113 (it) = some (.inr (5, [.int (lk), .int (lo), .int (r52), .int (lp), .int (lh), .int (lht), .int (lpa), .int (lla), .ref (it + 1), .ref (it + 3)])) := (fr118 (it) (hq_tne hy3 hy2 (by simp))).trans ((fr98 (it) (hq_tne hy3 hy2 (by simp))).trans (e71))
        refine hp_put hx hb hts hown hZ fx133 fp_X7_148 rfl rfl (Nat.le_of_ble_eq_true rfl) dX7_takeSlot_64 (fun V134 _ _ e135 o136 hZ => ?_)
        have e135 : V134 (it) = some (.inr (5, [.int (lk), .int (lo), .int (r52), .int (r116), .int (lh), .int (lht), .int (lpa), .int (lla), .ref (it + 1), .ref (it + 3)])) := e135
        have hP := hP.put hy3 e135 o136 (hq_c5 hy4 hy6 (show -1 ≤ (lh).toInt by omega) (show (lh).toInt ≤ 29 by omega)) rfl
        refine lv_aload_n hx hb dX7_takeSlot_67 rfl (lv_at hl 1 rfl) ?_
        refine hp_get (v := .int (r116)) hx hb hts hown hZ e135 fl_X7_148 rfl dX7_takeSlot_68 ?_
        refine lv_iconst (v := -1) hx hb dX7_takeSlot_71 (by decide) ?_
        refine lv_icmp_eq (tgt := 79) hx hb dX7_takeSlot_72 (by decide) (fun c137 => ?_) (fun c137 => ?_)
        · have c137 : (r116).toInt = (-1 : Int) := hq_eqi.mp c137
          have hF138 := hx_D.pos hp125 (by omega)
          have b139 := hF138.1
          have b140 := hF138.2.1
          refine lv_iconst (v := 0) hx hb dX7_takeSlot_79 (by decide) ?_
          have hl141 : (0 : Int32).toInt = 0 := by decide
          have fx142 : V134 (kb + 2) = some (.inr (7, [.int (z119), .int (z120), .ref (kb), .ref (qb), .int (z121), .int (z122), .int (z123), .ref (kb + 3)])) := (o136 (kb + 2) (hq_tne hy2 hy3 (by simp))).trans (ho124)
          exact hp_zret hx hb hr rfl hlocks hZ ⟨rfl, hP, (fun x8 hne0 hne1 => (o136 x8 hne1).trans ((fr118 x8 hne0).trans ((fr98 x8 hne0).trans ((o72 x8 hne1).trans ((fr54 x8 hne0).trans (fr11 x8 hne0)))))), z119, z120, z121, z122, z123, r52, r116, fx142, e135, hx_D.l (by omega) (by unfold sp_slot; (repeat (first | (rw [if_pos]; rotate_left; omega) | (rw [if_neg]; rotate_left; omega))); (try dsimp only); first | exact hF138 | exact ⟨by omega, by omega, by omega⟩), by omega⟩ dX7_takeSlot_80
        · have c137 : ¬ (r116).toInt = (-1 : Int) := fun h9 => c137 (hq_eqi.mpr h9)
          obtain ⟨b143, ⟨b144, b145, hA146⟩, b147⟩ := hx_D.neg hp125 (by omega)
          obtain ⟨b148, b149, b150, b151⟩ := id hA146
          refine lv_iconst (v := 1) hx hb dX7_takeSlot_75 (by decide) ?_
          refine lv_goto (tgt := 80) hx hb dX7_takeSlot_76 (by decide) ?_
          have hl152 : (1 : Int32).toInt = 1 := by decide
          have fx153 : V134 (kb + 2) = some (.inr (7, [.int (z119), .int (z120), .ref (kb), .ref (qb), .int (z121), .int (z122), .int (z123), .ref (kb + 3)])) := (o136 (kb + 2) (hq_tne hy2 hy3 (by simp))).trans (ho124)
          exact hp_zret hx hb hr rfl hlocks hZ ⟨rfl, hP, (fun x8 hne0 hne1 => (o136 x8 hne1).trans ((fr118 x8 hne0).trans ((fr98 x8 hne0).trans ((o72 x8 hne1).trans ((fr54 x8 hne0).trans (fr11 x8 hne0)))))), z119, z120, z121, z122, z123, r52, r116, fx153, e135, hx_D.r (by omega) (by unfold sp_slot; (repeat (first | (rw [if_pos]; rotate_left; omega) | (rw [if_neg]; rotate_left; omega))); (try dsimp only); exact ⟨by first | rfl | omega, ⟨by omega, by omega, hA146⟩, by omega, by omega⟩), by omega⟩ dX7_takeSlot_80
      · have c91 : ¬ (z58).toInt = (16 : Int) := fun h9 => c91 (hq_eqi.mpr h9)
        refine lv_aload_n hx hb dX7_takeSlot_39 rfl (lv_at hl 1 rfl) ?_
        refine hp_get (v := .int (r52)) hx hb hts hown hZ e71 fl_X7_145 rfl dX7_takeSlot_40 ?_
        refine lv_iconst (v := -1) hx hb dX7_takeSlot_43 (by decide) ?_
        have hl154 : (-1 : Int32).toInt = -1 := by decide
        refine lv_icmp_eq (tgt := 51) hx hb dX7_takeSlot_44 (by decide) (fun c155 => absurd c155 ((fun h9 => absurd (congrArg Int32.toInt h9) (by omega) : ¬ r52 = -1))) (fun c155 => ?_)
        refine lv_iconst (v := 1) hx hb dX7_takeSlot_47 (by decide) ?_
        refine lv_goto (tgt := 52) hx hb dX7_takeSlot_48 (by decide) ?_
        have hl156 : (1 : Int32).toInt = 1 := by decide
        exact hp_zret hx hb hr rfl hlocks hZ ⟨rfl, hP, (fun x8 hne0 hne1 => (o72 x8 hne1).trans ((fr54 x8 hne0).trans (fr11 x8 hne0))), z55, z56, z57, z58, z59, r52, lp, fx90, e71, hx_D.r (by omega) (by unfold sp_slot; (repeat (first | (rw [if_pos]; rotate_left; omega) | (rw [if_neg]; rotate_left; omega))); (try dsimp only); exact ⟨by first | rfl | omega, ⟨by omega, by omega, hA84⟩, by omega, by omega⟩), by omega⟩ dX7_takeSlot_52

set_option maxHeartbeats 4000000 in
set_option maxRecDepth 100000 in
theorem x_takeCompound (l : Launch) (D : va_G) (cs : Nat → ClassId) (B : Nat) (G : hq_G) (V : hp_V) (n : Nat) (hI : hq_I cs G V) (kb : Nat) (qb : Nat) (w : sp_W) (it : Nat) (bb : Nat) (j : Nat) (vn : List Nat) (fk : Int32) (fp : Int32) (nx : Int32) (tk : Int32) (st : Int32) (nz : Int32) (nf : Nat → Int32) (lk : Int32) (lo : Int32) (lt : Int32) (lp : Int32) (lh : Int32) (lht : Int32) (lpa : Int32) (lla : Int32) (bc : Int32) (bv : Int32) (bl : Int32) (hy0 : G (kb) = some (0, 4000, 0, 0)) (hy1 : G (kb + 1) = some (1, 4000, 0, 0)) (hy2 : G (kb + 2) = some (10, 0, 0, 0)) (hy3 : G (kb + 3) = some (0, 12, 0, 0)) (hy4 : G (kb + 4) = some (1, 12, 0, 0)) (hy5 : G (it) = some (5, bb, 0, 0)) (hy6 : G (it + 1) = some (0, 8, 0, 0)) (hy7 : G (it + 2) = some (1, 8, 0, 0)) (hy8 : G (it + 3) = some (0, 8, 0, 0)) (hy9 : G (it + 4) = some (1, 8, 0, 0)) (hc0 : V (kb + 2) = some (.inr (7, [.int (fk), .int (fp), .ref (kb), .ref (qb), .int (nx), .int (tk), .int (st), .ref (kb + 3)]))) (hc1 : V (kb + 3) = some (.inr (9, [.ref (kb + 3 + 1), .int (nz)]))) (hc2 : V (kb + 4) = some (.inl (cs 0, 12, .inl (nf)))) (hc3 : V (it) = some (.inr (5, [.int (lk), .int (lo), .int (lt), .int (lp), .int (lh), .int (lht), .int (lpa), .int (lla), .ref (it + 1), .ref (it + 3)]))) (hc4 : V (qb) = some (.inr (0, [.ref (qb + 1), .int (bc), .ref (qb + 14), .ref (qb + 75), .int (bv), .ref (qb + 76), .int (bl)]))) (hp0 : hx_TP cs V kb w) (hp1 : hx_BS cs V qb) (hp2 : hx_NL cs V (qb + 15) 30 w vn) (hA : hx_A w j st nx tk) (hq : kb + 88 ≤ qb) (hit : qb + 77 ≤ it ∧ it + 5 ≤ qb + 377) (hh : -1 ≤ lh.toInt ∧ lh.toInt ≤ 29) (hbv : bv.toInt = (vn.length : Int)) : hp_M l yX7_takeCompound cX7_takeCompound 3 (some .boolean) ({ frames := 8, cells := 0, slots := 0, locals := 175 }) D cs B V n [.ref (kb + 2), .ref (it)] (hp_QI D cs B (fun r V' n' => n = n' ∧ hq_P cs G (fun _ => true) V V' ∧ (∀ x, x ≠ kb + 2 → x ≠ kb + 3 → x ≠ kb + 4 → x ≠ it → V' x = V x) ∧ (∃ fk1 : Int32, ∃ fp1 : Int32, ∃ nx1 : Int32, ∃ tk1 : Int32, ∃ st1 : Int32, ∃ nz1 : Int32, ∃ nf1 : Nat → Int32, ∃ lt1 : Int32, ∃ lh1 : Int32, ∃ lht1 : Int32, ∃ lpa1 : Int32, V' (kb + 2) = some (.inr (7, [.int (fk1), .int (fp1), .ref (kb), .ref (qb), .int (nx1), .int (tk1), .int (st1), .ref (kb + 3)])) ∧ V' (kb + 3) = some (.inr (9, [.ref (kb + 3 + 1), .int (nz1)])) ∧ V' (kb + 4) = some (.inl (cs 0, 12, .inl (nf1))) ∧ V' (it) = some (.inr (5, [.int (lk), .int (lo), .int (lt1), .int (lp), .int (lh1), .int (lht1), .int (lpa1), .int (lla), .ref (it + 1), .ref (it + 3)])) ∧ (hx_D (r.toInt = 0) (hx_F w (sp_comp w vn j).1 (sp_comp w vn j).2.1 fk1 fp1) ((sp_comp w vn j).1 = 0 ∧ hx_O w (sp_comp w vn j).2.1 fk fp fk1 fp1 st1 nx1 tk1 ∧ lt1.toInt = (sp_comp w vn j).2.2.1 ∧ lh1.toInt = (sp_comp w vn j).2.2.2)) ∧ (r.toInt = 0 ∨ r.toInt = 1) ∧ (-1 ≤ lh1.toInt ∧ lh1.toInt ≤ 29)))) 0 0 := by
  refine hp_walk (R0 := RX7) (by decide) rfl ?_ (Nat.le_of_ble_eq_true rfl)
  intro p e s m below meth c ls hx hb hr hts hown hlocks hin hml hZ hl
  have hP : hq_P cs G (fun _ => true) V V := hq_P.rf hI
  have hl : lv_has ls 3 [(0, .ref (kb + 2)), (1, .ref (it))] := hl
  have hb_fk := hq_rng fk
  have hb_fp := hq_rng fp
  have hb_nx := hq_rng nx
  have hb_tk := hq_rng tk
  have hb_st := hq_rng st
  have hb_nz := hq_rng nz
  have hb_lk := hq_rng lk
  have hb_lo := hq_rng lo
  have hb_lt := hq_rng lt
  have hb_lp := hq_rng lp
  have hb_lh := hq_rng lh
  have hb_lht := hq_rng lht
  have hb_lpa := hq_rng lpa
  have hb_lla := hq_rng lla
  have hb_bc := hq_rng bc
  have hb_bv := hq_rng bv
  have hb_bl := hq_rng bl
  have hf_2 := hq_rgB hI hy4 hc2
  obtain ⟨b1, b2, b3, b4⟩ := id hA
  obtain ⟨⟨g1, hg1, hr1⟩, ⟨g2, hg2, hr2⟩, ⟨g3, hg3, hr3⟩⟩ := id hp1
  have hlenv := hp2.1
  refine lv_aload_n hx hb dX7_takeCompound_0 rfl (lv_at hl 1 rfl) ?_
  refine lv_aload_n hx hb dX7_takeCompound_1 rfl (lv_at hl 0 rfl) ?_
  refine lv_bipush (v := 11) hx hb dX7_takeCompound_2 (by decide) ?_
  have hl5 : (11 : Int32).toInt = 11 := by decide
  refine hp_calli (hp_runV (As := [.int (11)]) (rest := [.ref (it)]) hx hb hml hown hts (x_take l D cs B G V n hP.1 (kb) (qb) (w) (j) (11) (11) (fk) (fp) (nx) (tk) (st) hy0 hy1 hy2 hc0 hp0 hA (by decide) (by decide)) hZ hc0 cv_X7_58 rfl rfl ⟨Nat.le_of_ble_eq_true rfl, Nat.le_of_ble_eq_true rfl⟩ rfl hl.1 rfl (Nat.le_of_ble_eq_true rfl) dX7_takeCompound_4 ⟨(Nat.le_of_ble_eq_true rfl), (Nat.le_of_ble_eq_true rfl)⟩) hZ (fun r9 V6 n7 _ _ hw8 hZ => ?_)
  obtain ⟨rfl, hq10, fr11, z12, z13, z14, z15, z16, ho17, hp18, hp19⟩ := hw8
  have b20 := hq_rng z12
  have b21 := hq_rng z13
  have b22 := hq_rng z14
  have b23 := hq_rng z15
  have b24 := hq_rng z16
  have hP := hP.trans hq10 (fun _ h => Bool.noConfusion h)
  have b25 := hq_rng r9
  refine lv_if_eq (tgt := 18) hx hb dX7_takeCompound_7 (by decide) (fun c26 => ?_) (fun c26 => ?_)
  · have c26 : (r9).toInt = (0 : Int) := hq_eqi.mp c26
    have hF27 := hx_D.pos hp18 (by omega)
    have b28 := hF27.1
    have b29 := hF27.2.1
    refine lv_iconst (v := -1) hx hb dX7_takeCompound_18 (by decide) ?_
    have fx30 : V6 (it) = some (.inr (5, [.int (lk), .int (lo), .int (lt), .int (lp), .int (lh), .int (lht), .int (lpa), .int (lla), .ref (it + 1), .ref (it + 3)])) := (fr11 (it) (hq_tne hy5 hy2 (by simp))).trans (hc3)
    refine hp_put hx hb hts hown hZ fx30 fp_X7_145 rfl rfl (Nat.le_of_ble_eq_true rfl) dX7_takeCompound_19 (fun V31 _ _ e32 o33 hZ => ?_)
    have e32 : V31 (it) = some (.inr (5, [.int (lk), .int (lo), .int (-1), .int (lp), .int (lh), .int (lht), .int (lpa), .int (lla), .ref (it + 1), .ref (it + 3)])) := e32
    have hP := hP.put hy5 e32 o33 (hq_c5 hy6 hy8 (show -1 ≤ (lh).toInt by omega) (show (lh).toInt ≤ 29 by omega)) rfl
    refine lv_aload_n hx hb dX7_takeCompound_22 rfl (lv_at hl 1 rfl) ?_
    refine hp_get (v := .int (-1)) hx hb hts hown hZ e32 fl_X7_145 rfl dX7_takeCompound_23 ?_
    refine lv_iconst (v := -1) hx hb dX7_takeCompound_26 (by decide) ?_
    refine lv_icmp_eq (tgt := 43) hx hb dX7_takeCompound_27 (by decide) (fun c34 => ?_) (fun c34 => absurd (by decide) c34)
    refine lv_iconst (v := 0) hx hb dX7_takeCompound_43 (by decide) ?_
    refine lv_istore_n (lv' := [(2, .int (0)), (0, .ref (kb + 2)), (1, .ref (it))]) hx hb dX7_takeCompound_44 rfl hl (by decide) rfl (fun ls hl => ?_)
    refine lv_aload_n hx hb dX7_takeCompound_45 rfl (lv_at hl 2 rfl) ?_
    refine lv_iload_n hx hb dX7_takeCompound_46 rfl (lv_at hl 0 rfl) ?_
    refine lv_if_eq (tgt := 71) hx hb dX7_takeCompound_47 (by decide) (fun c35 => ?_) (fun c35 => absurd (by decide) c35)
    refine lv_iconst (v := -1) hx hb dX7_takeCompound_71 (by decide) ?_
    refine hp_put hx hb hts hown hZ e32 fp_X7_161 rfl rfl (Nat.le_of_ble_eq_true rfl) dX7_takeCompound_72 (fun V36 _ _ e37 o38 hZ => ?_)
    have e37 : V36 (it) = some (.inr (5, [.int (lk), .int (lo), .int (-1), .int (lp), .int (-1), .int (lht), .int (lpa), .int (lla), .ref (it + 1), .ref (it + 3)])) := e37
    have hP := hP.put hy5 e37 o38 (hq_c5 hy6 hy8 (show -1 ≤ (-1 : Int) by omega) (show (-1 : Int) ≤ 29 by omega)) rfl
    refine lv_aload_n hx hb dX7_takeCompound_75 rfl (lv_at hl 2 rfl) ?_
    refine lv_aload_n hx hb dX7_takeCompound_76 rfl (lv_at hl 2 rfl) ?_
    refine hp_get (v := .int (-1)) hx hb hts hown hZ e37 fl_X7_161 rfl dX7_takeCompound_77 ?_
    refine lv_iconst (v := -1) hx hb dX7_takeCompound_80 (by decide) ?_
    refine lv_icmp_eq (tgt := 101) hx hb dX7_takeCompound_81 (by decide) (fun c39 => ?_) (fun c39 => absurd (by decide) c39)
    refine lv_iconst (v := -1) hx hb dX7_takeCompound_101 (by decide) ?_
    refine hp_put hx hb hts hown hZ e37 fp_X7_164 rfl rfl (Nat.le_of_ble_eq_true rfl) dX7_takeCompound_102 (fun V40 _ _ e41 o42 hZ => ?_)
    have e41 : V40 (it) = some (.inr (5, [.int (lk), .int (lo), .int (-1), .int (lp), .int (-1), .int (-1), .int (lpa), .int (lla), .ref (it + 1), .ref (it + 3)])) := e41
    have hP := hP.put hy5 e41 o42 (hq_c5 hy6 hy8 (show -1 ≤ (-1 : Int) by omega) (show (-1 : Int) ≤ 29 by omega)) rfl
    refine lv_aload_n hx hb dX7_takeCompound_105 rfl (lv_at hl 2 rfl) ?_
    refine lv_aload_n hx hb dX7_takeCompound_106 rfl (lv_at hl 2 rfl) ?_
    refine hp_get (v := .int (-1)) hx hb hts hown hZ e41 fl_X7_164 rfl dX7_takeCompound_107 ?_
    refine lv_iconst (v := -1) hx hb dX7_takeCompound_110 (by decide) ?_
    refine lv_icmp_eq (tgt := 131) hx hb dX7_takeCompound_111 (by decide) (fun c43 => ?_) (fun c43 => absurd (by decide) c43)
    refine lv_iconst (v := -1) hx hb dX7_takeCompound_131 (by decide) ?_
    refine hp_put hx hb hts hown hZ e41 fp_X7_167 rfl rfl (Nat.le_of_ble_eq_true rfl) dX7_takeCompound_132 (fun V44 _ _ e45 o46 hZ => ?_)
    have e45 : V44 (it) = some (.inr (5, [.int (lk), .int (lo), .int (-1), .int (lp), .int (-1), .int (-1), .int (-1), .int (lla), .ref (it + 1), .ref (it + 3)])) := e45
    have hP := hP.put hy5 e45 o46 (hq_c5 hy6 hy8 (show -1 ≤ (-1 : Int) by omega) (show (-1 : Int) ≤ 29 by omega)) rfl
    refine lv_aload_n hx hb dX7_takeCompound_135 rfl (lv_at hl 2 rfl) ?_
    refine hp_get (v := .int (-1)) hx hb hts hown hZ e45 fl_X7_167 rfl dX7_takeCompound_136 ?_
    refine lv_iconst (v := -1) hx hb dX7_takeCompound_139 (by decide) ?_
    refine lv_icmp_eq (tgt := 147) hx hb dX7_takeCompound_140 (by decide) (fun c47 => ?_) (fun c47 => absurd (by decide) c47)
    refine lv_iconst (v := 0) hx hb dX7_takeCompound_147 (by decide) ?_
    have hl48 : (0 : Int32).toInt = 0 := by decide
    have fx49 : V44 (kb + 2) = some (.inr (7, [.int (z12), .int (z13), .ref (kb), .ref (qb), .int (z14), .int (z15), .int (z16), .ref (kb + 3)])) := (o46 (kb + 2) (hq_tne hy2 hy5 (by simp))).trans ((o42 (kb + 2) (hq_tne hy2 hy5 (by simp))).trans ((o38 (kb + 2) (hq_tne hy2 hy5 (by simp))).trans ((o33 (kb + 2) (hq_tne hy2 hy5 (by simp))).trans (ho17))))
    have fx50 : V44 (kb + 3) = some (.inr (9, [.ref (kb + 3 + 1), .int (nz)])) := (o46 (kb + 3) (hq_tne hy3 hy5 (by simp))).trans ((o42 (kb + 3) (hq_tne hy3 hy5 (by simp))).trans ((o38 (kb + 3) (hq_tne hy3 hy5 (by simp))).trans ((o33 (kb + 3) (hq_tne hy3 hy5 (by simp))).trans ((fr11 (kb + 3) (hq_tne hy3 hy2 (by simp))).trans (hc1)))))
    have fx51 : V44 (kb + 4) = some (.inl (cs 0, 12, .inl (nf))) := (o46 (kb + 4) (hq_tne hy4 hy5 (by simp))).trans ((o42 (kb + 4) (hq_tne hy4 hy5 (by simp))).trans ((o38 (kb + 4) (hq_tne hy4 hy5 (by simp))).trans ((o33 (kb + 4) (hq_tne hy4 hy5 (by simp))).trans ((fr11 (kb + 4) (hq_tne hy4 hy2 (by simp))).trans (hc2)))))
    have hl52 : (-1 : Int32).toInt = -1 := by decide
    have hl53 : (-1 : Int32).toInt = -1 := by decide
    have hl54 : (-1 : Int32).toInt = -1 := by decide
    have hl55 : (-1 : Int32).toInt = -1 := by decide
    exact hp_zret hx hb hr rfl hlocks hZ ⟨rfl, hP, (fun x8 hne0 hne1 hne2 hne3 => (o46 x8 hne3).trans ((o42 x8 hne3).trans ((o38 x8 hne3).trans ((o33 x8 hne3).trans (fr11 x8 hne0))))), z12, z13, z14, z15, z16, nz, nf, -1, -1, -1, -1, fx49, fx50, fx51, e45, hx_D.l (by omega) (by unfold sp_comp; (repeat (first | (rw [if_pos]; rotate_left; omega) | (rw [if_neg]; rotate_left; omega))); (try dsimp only); first | exact hF27 | exact ⟨by omega, by omega, by omega⟩), by omega, by omega⟩ dX7_takeCompound_148
  · have c26 : ¬ (r9).toInt = (0 : Int) := fun h9 => c26 (hq_eqi.mpr h9)
    obtain ⟨b56, ⟨b57, b58, hA59⟩⟩ := hx_D.neg hp18 (by omega)
    obtain ⟨b60, b61, b62, b63⟩ := id hA59
    refine lv_aload_n hx hb dX7_takeCompound_10 rfl (lv_at hl 0 rfl) ?_
    refine lv_iconst (v := 5) hx hb dX7_takeCompound_11 (by decide) ?_
    have hl64 : (5 : Int32).toInt = 5 := by decide
    have pk65 := hp0.keep (fr11 (kb) (hq_tne hy0 hy2 (by simp))) (fr11 (kb + 1) (hq_tne hy1 hy2 (by simp)))
    refine hp_calli (hp_runV (As := [.int (5)]) (rest := [.ref (it)]) hx hb hml hown hts (x_takeNumber l D cs B G V6 n hP.1 (kb) (qb) (w) ((sp_take w 11 j).2) (5) (5) (z12) (z13) (z14) (z15) (z16) hy0 hy1 hy2 ho17 pk65 hA59 (by decide) (by decide)) hZ ho17 cv_X7_141 rfl rfl ⟨Nat.le_of_ble_eq_true rfl, Nat.le_of_ble_eq_true rfl⟩ rfl hl.1 rfl (Nat.le_of_ble_eq_true rfl) dX7_takeCompound_12 ⟨(Nat.le_of_ble_eq_true rfl), (Nat.le_of_ble_eq_true rfl)⟩) hZ (fun r69 V66 n67 _ _ hw68 hZ => ?_)
    obtain ⟨rfl, hq70, fr71, z72, z73, z74, z75, z76, ho77, hp78, hp79⟩ := hw68
    have b80 := hq_rng z72
    have b81 := hq_rng z73
    have b82 := hq_rng z74
    have b83 := hq_rng z75
    have b84 := hq_rng z76
    have hP := hP.trans hq70 (fun _ h => Bool.noConfusion h)
    have b85 := hq_rng r69
    refine lv_goto (tgt := 19) hx hb dX7_takeCompound_15 (by decide) ?_
    have fx86 : V66 (it) = some (.inr (5, [.int (lk), .int (lo), .int (lt), .int (lp), .int (lh), .int (lht), .int (lpa), .int (lla), .ref (it + 1), .ref (it + 3)])) := (fr71 (it) (hq_tne hy5 hy2 (by simp))).trans ((fr11 (it) (hq_tne hy5 hy2 (by simp))).trans (hc3))
    refine hp_put hx hb hts hown hZ fx86 fp_X7_145 rfl rfl (Nat.le_of_ble_eq_true rfl) dX7_takeCompound_19 (fun V87 _ _ e88 o89 hZ => ?_)
    have e88 : V87 (it) = some (.inr (5, [.int (lk), .int (lo), .int (r69), .int (lp), .int (lh), .int (lht), .int (lpa), .int (lla), .ref (it + 1), .ref (it + 3)])) := e88
    have hP := hP.put hy5 e88 o89 (hq_c5 hy6 hy8 (show -1 ≤ (lh).toInt by omega) (show (lh).toInt ≤ 29 by omega)) rfl
    refine lv_aload_n hx hb dX7_takeCompound_22 rfl (lv_at hl 1 rfl) ?_
    refine hp_get (v := .int (r69)) hx hb hts hown hZ e88 fl_X7_145 rfl dX7_takeCompound_23 ?_
    refine lv_iconst (v := -1) hx hb dX7_takeCompound_26 (by decide) ?_
    refine lv_icmp_eq (tgt := 43) hx hb dX7_takeCompound_27 (by decide) (fun c90 => ?_) (fun c90 => ?_)
    · have c90 : (r69).toInt = (-1 : Int) := hq_eqi.mp c90
      have hF91 := hx_D.pos hp78 (by omega)
      have b92 := hF91.1
      have b93 := hF91.2.1
      refine lv_iconst (v := 0) hx hb dX7_takeCompound_43 (by decide) ?_
      refine lv_istore_n (lv' := [(2, .int (0)), (0, .ref (kb + 2)), (1, .ref (it))]) hx hb dX7_takeCompound_44 rfl hl (by decide) rfl (fun ls hl => ?_)
      refine lv_aload_n hx hb dX7_takeCompound_45 rfl (lv_at hl 2 rfl) ?_
      refine lv_iload_n hx hb dX7_takeCompound_46 rfl (lv_at hl 0 rfl) ?_
      refine lv_if_eq (tgt := 71) hx hb dX7_takeCompound_47 (by decide) (fun c94 => ?_) (fun c94 => absurd (by decide) c94)
      refine lv_iconst (v := -1) hx hb dX7_takeCompound_71 (by decide) ?_
      refine hp_put hx hb hts hown hZ e88 fp_X7_161 rfl rfl (Nat.le_of_ble_eq_true rfl) dX7_takeCompound_72 (fun V95 _ _ e96 o97 hZ => ?_)
      have e96 : V95 (it) = some (.inr (5, [.int (lk), .int (lo), .int (r69), .int (lp), .int (-1), .int (lht), .int (lpa), .int (lla), .ref (it + 1), .ref (it + 3)])) := e96
      have hP := hP.put hy5 e96 o97 (hq_c5 hy6 hy8 (show -1 ≤ (-1 : Int) by omega) (show (-1 : Int) ≤ 29 by omega)) rfl
      refine lv_aload_n hx hb dX7_takeCompound_75 rfl (lv_at hl 2 rfl) ?_
      refine lv_aload_n hx hb dX7_takeCompound_76 rfl (lv_at hl 2 rfl) ?_
      refine hp_get (v := .int (-1)) hx hb hts hown hZ e96 fl_X7_161 rfl dX7_takeCompound_77 ?_
      refine lv_iconst (v := -1) hx hb dX7_takeCompound_80 (by decide) ?_
      refine lv_icmp_eq (tgt := 101) hx hb dX7_takeCompound_81 (by decide) (fun c98 => ?_) (fun c98 => absurd (by decide) c98)
      refine lv_iconst (v := -1) hx hb dX7_takeCompound_101 (by decide) ?_
      refine hp_put hx hb hts hown hZ e96 fp_X7_164 rfl rfl (Nat.le_of_ble_eq_true rfl) dX7_takeCompound_102 (fun V99 _ _ e100 o101 hZ => ?_)
      have e100 : V99 (it) = some (.inr (5, [.int (lk), .int (lo), .int (r69), .int (lp), .int (-1), .int (-1), .int (lpa), .int (lla), .ref (it + 1), .ref (it + 3)])) := e100
      have hP := hP.put hy5 e100 o101 (hq_c5 hy6 hy8 (show -1 ≤ (-1 : Int) by omega) (show (-1 : Int) ≤ 29 by omega)) rfl
      refine lv_aload_n hx hb dX7_takeCompound_105 rfl (lv_at hl 2 rfl) ?_
      refine lv_aload_n hx hb dX7_takeCompound_106 rfl (lv_at hl 2 rfl) ?_
      refine hp_get (v := .int (-1)) hx hb hts hown hZ e100 fl_X7_164 rfl dX7_takeCompound_107 ?_
      refine lv_iconst (v := -1) hx hb dX7_takeCompound_110 (by decide) ?_
      refine lv_icmp_eq (tgt := 131) hx hb dX7_takeCompound_111 (by decide) (fun c102 => ?_) (fun c102 => absurd (by decide) c102)
      refine lv_iconst (v := -1) hx hb dX7_takeCompound_131 (by decide) ?_
      refine hp_put hx hb hts hown hZ e100 fp_X7_167 rfl rfl (Nat.le_of_ble_eq_true rfl) dX7_takeCompound_132 (fun V103 _ _ e104 o105 hZ => ?_)
      have e104 : V103 (it) = some (.inr (5, [.int (lk), .int (lo), .int (r69), .int (lp), .int (-1), .int (-1), .int (-1), .int (lla), .ref (it + 1), .ref (it + 3)])) := e104
      have hP := hP.put hy5 e104 o105 (hq_c5 hy6 hy8 (show -1 ≤ (-1 : Int) by omega) (show (-1 : Int) ≤ 29 by omega)) rfl
      refine lv_aload_n hx hb dX7_takeCompound_135 rfl (lv_at hl 2 rfl) ?_
      refine hp_get (v := .int (-1)) hx hb hts hown hZ e104 fl_X7_167 rfl dX7_takeCompound_136 ?_
      refine lv_iconst (v := -1) hx hb dX7_takeCompound_139 (by decide) ?_
      refine lv_icmp_eq (tgt := 147) hx hb dX7_takeCompound_140 (by decide) (fun c106 => ?_) (fun c106 => absurd (by decide) c106)
      refine lv_iconst (v := 0) hx hb dX7_takeCompound_147 (by decide) ?_
      have hl107 : (0 : Int32).toInt = 0 := by decide
      have fx108 : V103 (kb + 2) = some (.inr (7, [.int (z72), .int (z73), .ref (kb), .ref (qb), .int (z74), .int (z75), .int (z76), .ref (kb + 3)])) := (o105 (kb + 2) (hq_tne hy2 hy5 (by simp))).trans ((o101 (kb + 2) (hq_tne hy2 hy5 (by simp))).trans ((o97 (kb + 2) (hq_tne hy2 hy5 (by simp))).trans ((o89 (kb + 2) (hq_tne hy2 hy5 (by simp))).trans (ho77))))
      have fx109 : V103 (kb + 3) = some (.inr (9, [.ref (kb + 3 + 1), .int (nz)])) := (o105 (kb + 3) (hq_tne hy3 hy5 (by simp))).trans ((o101 (kb + 3) (hq_tne hy3 hy5 (by simp))).trans ((o97 (kb + 3) (hq_tne hy3 hy5 (by simp))).trans ((o89 (kb + 3) (hq_tne hy3 hy5 (by simp))).trans ((fr71 (kb + 3) (hq_tne hy3 hy2 (by simp))).trans ((fr11 (kb + 3) (hq_tne hy3 hy2 (by simp))).trans (hc1))))))
      have fx110 : V103 (kb + 4) = some (.inl (cs 0, 12, .inl (nf))) := (o105 (kb + 4) (hq_tne hy4 hy5 (by simp))).trans ((o101 (kb + 4) (hq_tne hy4 hy5 (by simp))).trans ((o97 (kb + 4) (hq_tne hy4 hy5 (by simp))).trans ((o89 (kb + 4) (hq_tne hy4 hy5 (by simp))).trans ((fr71 (kb + 4) (hq_tne hy4 hy2 (by simp))).trans ((fr11 (kb + 4) (hq_tne hy4 hy2 (by simp))).trans (hc2))))))
      have hl111 : (-1 : Int32).toInt = -1 := by decide
      have hl112 : (-1 : Int32).toInt = -1 := by decide
      have hl113 : (-1 : Int32).toInt = -1 := by decide
      exact hp_zret hx hb hr rfl hlocks hZ ⟨rfl, hP, (fun x8 hne0 hne1 hne2 hne3 => (o105 x8 hne3).trans ((o101 x8 hne3).trans ((o97 x8 hne3).trans ((o89 x8 hne3).trans ((fr71 x8 hne0).trans (fr11 x8 hne0)))))), z72, z73, z74, z75, z76, nz, nf, r69, -1, -1, -1, fx108, fx109, fx110, e104, hx_D.l (by omega) (by unfold sp_comp; (repeat (first | (rw [if_pos]; rotate_left; omega) | (rw [if_neg]; rotate_left; omega))); (try dsimp only); first | exact hF91 | exact ⟨by omega, by omega, by omega⟩), by omega, by omega⟩ dX7_takeCompound_148
    · have c90 : ¬ (r69).toInt = (-1 : Int) := fun h9 => c90 (hq_eqi.mpr h9)
      obtain ⟨b114, ⟨b115, b116, hA117⟩, b118⟩ := hx_D.neg hp78 (by omega)
      obtain ⟨b119, b120, b121, b122⟩ := id hA117
      refine lv_aload_n hx hb dX7_takeCompound_30 rfl (lv_at hl 0 rfl) ?_
      refine lv_bipush (v := 12) hx hb dX7_takeCompound_31 (by decide) ?_
      have fx123 : V87 (kb + 2) = some (.inr (7, [.int (z72), .int (z73), .ref (kb), .ref (qb), .int (z74), .int (z75), .int (z76), .ref (kb + 3)])) := (o89 (kb + 2) (hq_tne hy2 hy5 (by simp))).trans (ho77)
      have hl124 : (12 : Int32).toInt = 12 := by decide
      have pk125 := pk65.keep ((o89 (kb) (hq_tne hy0 hy5 (by simp))).trans (fr71 (kb) (hq_tne hy0 hy2 (by simp)))) ((o89 (kb + 1) (hq_tne hy1 hy5 (by simp))).trans (fr71 (kb + 1) (hq_tne hy1 hy2 (by simp))))
      refine hp_calli (hp_runV (As := [.int (12)]) (rest := []) hx hb hml hown hts (x_take l D cs B G V87 n hP.1 (kb) (qb) (w) ((sp_num w 5 ((sp_take w 11 j).2)).2.1) (12) (12) (z72) (z73) (z74) (z75) (z76) hy0 hy1 hy2 fx123 pk125 hA117 (by decide) (by decide)) hZ fx123 cv_X7_58 rfl rfl ⟨Nat.le_of_ble_eq_true rfl, Nat.le_of_ble_eq_true rfl⟩ rfl hl.1 rfl (Nat.le_of_ble_eq_true rfl) dX7_takeCompound_33 ⟨(Nat.le_of_ble_eq_true rfl), (Nat.le_of_ble_eq_true rfl)⟩) hZ (fun r129 V126 n127 _ _ hw128 hZ => ?_)
      obtain ⟨rfl, hq130, fr131, z132, z133, z134, z135, z136, ho137, hp138, hp139⟩ := hw128
      have b140 := hq_rng z132
      have b141 := hq_rng z133
      have b142 := hq_rng z134
      have b143 := hq_rng z135
      have b144 := hq_rng z136
      have hP := hP.trans hq130 (fun _ h => Bool.noConfusion h)
      have b145 := hq_rng r129
      refine lv_if_eq (tgt := 43) hx hb dX7_takeCompound_36 (by decide) (fun c146 => ?_) (fun c146 => ?_)
      · have c146 : (r129).toInt = (0 : Int) := hq_eqi.mp c146
        have hF147 := hx_D.pos hp138 (by omega)
        have b148 := hF147.1
        have b149 := hF147.2.1
        refine lv_iconst (v := 0) hx hb dX7_takeCompound_43 (by decide) ?_
        refine lv_istore_n (lv' := [(2, .int (0)), (0, .ref (kb + 2)), (1, .ref (it))]) hx hb dX7_takeCompound_44 rfl hl (by decide) rfl (fun ls hl => ?_)
        refine lv_aload_n hx hb dX7_takeCompound_45 rfl (lv_at hl 2 rfl) ?_
        refine lv_iload_n hx hb dX7_takeCompound_46 rfl (lv_at hl 0 rfl) ?_
        refine lv_if_eq (tgt := 71) hx hb dX7_takeCompound_47 (by decide) (fun c150 => ?_) (fun c150 => absurd (by decide) c150)
        refine lv_iconst (v := -1) hx hb dX7_takeCompound_71 (by decide) ?_
        have fx151 : V126 (it) = some (.inr (5, [.int (lk), .int (lo), .int (r69), .int (lp), .int (lh), .int (lht), .int (lpa), .int (lla), .ref (it + 1), .ref (it + 3)])) := (fr131 (it) (hq_tne hy5 hy2 (by simp))).trans (e88)
        refine hp_put hx hb hts hown hZ fx151 fp_X7_161 rfl rfl (Nat.le_of_ble_eq_true rfl) dX7_takeCompound_72 (fun V152 _ _ e153 o154 hZ => ?_)
        have e153 : V152 (it) = some (.inr (5, [.int (lk), .int (lo), .int (r69), .int (lp), .int (-1), .int (lht), .int (lpa), .int (lla), .ref (it + 1), .ref (it + 3)])) := e153
        have hP := hP.put hy5 e153 o154 (hq_c5 hy6 hy8 (show -1 ≤ (-1 : Int) by omega) (show (-1 : Int) ≤ 29 by omega)) rfl
        refine lv_aload_n hx hb dX7_takeCompound_75 rfl (lv_at hl 2 rfl) ?_
        refine lv_aload_n hx hb dX7_takeCompound_76 rfl (lv_at hl 2 rfl) ?_
        refine hp_get (v := .int (-1)) hx hb hts hown hZ e153 fl_X7_161 rfl dX7_takeCompound_77 ?_
        refine lv_iconst (v := -1) hx hb dX7_takeCompound_80 (by decide) ?_
        refine lv_icmp_eq (tgt := 101) hx hb dX7_takeCompound_81 (by decide) (fun c155 => ?_) (fun c155 => absurd (by decide) c155)
        refine lv_iconst (v := -1) hx hb dX7_takeCompound_101 (by decide) ?_
        refine hp_put hx hb hts hown hZ e153 fp_X7_164 rfl rfl (Nat.le_of_ble_eq_true rfl) dX7_takeCompound_102 (fun V156 _ _ e157 o158 hZ => ?_)
        have e157 : V156 (it) = some (.inr (5, [.int (lk), .int (lo), .int (r69), .int (lp), .int (-1), .int (-1), .int (lpa), .int (lla), .ref (it + 1), .ref (it + 3)])) := e157
        have hP := hP.put hy5 e157 o158 (hq_c5 hy6 hy8 (show -1 ≤ (-1 : Int) by omega) (show (-1 : Int) ≤ 29 by omega)) rfl
        refine lv_aload_n hx hb dX7_takeCompound_105 rfl (lv_at hl 2 rfl) ?_
        refine lv_aload_n hx hb dX7_takeCompound_106 rfl (lv_at hl 2 rfl) ?_
        refine hp_get (v := .int (-1)) hx hb hts hown hZ e157 fl_X7_164 rfl dX7_takeCompound_107 ?_
        refine lv_iconst (v := -1) hx hb dX7_takeCompound_110 (by decide) ?_
        refine lv_icmp_eq (tgt := 131) hx hb dX7_takeCompound_111 (by decide) (fun c159 => ?_) (fun c159 => absurd (by decide) c159)
        refine lv_iconst (v := -1) hx hb dX7_takeCompound_131 (by decide) ?_
        refine hp_put hx hb hts hown hZ e157 fp_X7_167 rfl rfl (Nat.le_of_ble_eq_true rfl) dX7_takeCompound_132 (fun V160 _ _ e161 o162 hZ => ?_)
        have e161 : V160 (it) = some (.inr (5, [.int (lk), .int (lo), .int (r69), .int (lp), .int (-1), .int (-1), .int (-1), .int (lla), .ref (it + 1), .ref (it + 3)])) := e161
        have hP := hP.put hy5 e161 o162 (hq_c5 hy6 hy8 (show -1 ≤ (-1 : Int) by omega) (show (-1 : Int) ≤ 29 by omega)) rfl
        refine lv_aload_n hx hb dX7_takeCompound_135 rfl (lv_at hl 2 rfl) ?_
        refine hp_get (v := .int (-1)) hx hb hts hown hZ e161 fl_X7_167 rfl dX7_takeCompound_136 ?_
        refine lv_iconst (v := -1) hx hb dX7_takeCompound_139 (by decide) ?_
        refine lv_icmp_eq (tgt := 147) hx hb dX7_takeCompound_140 (by decide) (fun c163 => ?_) (fun c163 => absurd (by decide) c163)
        refine lv_iconst (v := 0) hx hb dX7_takeCompound_147 (by decide) ?_
        have hl164 : (0 : Int32).toInt = 0 := by decide
        have fx165 : V160 (kb + 2) = some (.inr (7, [.int (z132), .int (z133), .ref (kb), .ref (qb), .int (z134), .int (z135), .int (z136), .ref (kb + 3)])) := (o162 (kb + 2) (hq_tne hy2 hy5 (by simp))).trans ((o158 (kb + 2) (hq_tne hy2 hy5 (by simp))).trans ((o154 (kb + 2) (hq_tne hy2 hy5 (by simp))).trans (ho137)))
        have fx166 : V160 (kb + 3) = some (.inr (9, [.ref (kb + 3 + 1), .int (nz)])) := (o162 (kb + 3) (hq_tne hy3 hy5 (by simp))).trans ((o158 (kb + 3) (hq_tne hy3 hy5 (by simp))).trans ((o154 (kb + 3) (hq_tne hy3 hy5 (by simp))).trans ((fr131 (kb + 3) (hq_tne hy3 hy2 (by simp))).trans ((o89 (kb + 3) (hq_tne hy3 hy5 (by simp))).trans ((fr71 (kb + 3) (hq_tne hy3 hy2 (by simp))).trans ((fr11 (kb + 3) (hq_tne hy3 hy2 (by simp))).trans (hc1)))))))
        have fx167 : V160 (kb + 4) = some (.inl (cs 0, 12, .inl (nf))) := (o162 (kb + 4) (hq_tne hy4 hy5 (by simp))).trans ((o158 (kb + 4) (hq_tne hy4 hy5 (by simp))).trans ((o154 (kb + 4) (hq_tne hy4 hy5 (by simp))).trans ((fr131 (kb + 4) (hq_tne hy4 hy2 (by simp))).trans ((o89 (kb + 4) (hq_tne hy4 hy5 (by simp))).trans ((fr71 (kb + 4) (hq_tne hy4 hy2 (by simp))).trans ((fr11 (kb + 4) (hq_tne hy4 hy2 (by simp))).trans (hc2)))))))
        have hl168 : (-1 : Int32).toInt = -1 := by decide
        have hl169 : (-1 : Int32).toInt = -1 := by decide
        have hl170 : (-1 : Int32).toInt = -1 := by decide
        exact hp_zret hx hb hr rfl hlocks hZ ⟨rfl, hP, (fun x8 hne0 hne1 hne2 hne3 => (o162 x8 hne3).trans ((o158 x8 hne3).trans ((o154 x8 hne3).trans ((fr131 x8 hne0).trans ((o89 x8 hne3).trans ((fr71 x8 hne0).trans (fr11 x8 hne0))))))), z132, z133, z134, z135, z136, nz, nf, r69, -1, -1, -1, fx165, fx166, fx167, e161, hx_D.l (by omega) (by unfold sp_comp; (repeat (first | (rw [if_pos]; rotate_left; omega) | (rw [if_neg]; rotate_left; omega))); (try dsimp only); first | exact hF147 | exact ⟨by omega, by omega, by omega⟩), by omega, by omega⟩ dX7_takeCompound_148
      · have c146 : ¬ (r129).toInt = (0 : Int) := fun h9 => c146 (hq_eqi.mpr h9)
        obtain ⟨b171, ⟨b172, b173, hA174⟩⟩ := hx_D.neg hp138 (by omega)
        obtain ⟨b175, b176, b177, b178⟩ := id hA174
        refine lv_iconst (v := 1) hx hb dX7_takeCompound_39 (by decide) ?_
        refine lv_goto (tgt := 44) hx hb dX7_takeCompound_40 (by decide) ?_
        refine lv_istore_n (lv' := [(2, .int (1)), (0, .ref (kb + 2)), (1, .ref (it))]) hx hb dX7_takeCompound_44 rfl hl (by decide) rfl (fun ls hl => ?_)
        refine lv_aload_n hx hb dX7_takeCompound_45 rfl (lv_at hl 2 rfl) ?_
        refine lv_iload_n hx hb dX7_takeCompound_46 rfl (lv_at hl 0 rfl) ?_
        refine lv_if_eq (tgt := 71) hx hb dX7_takeCompound_47 (by decide) (fun c179 => absurd c179 (by decide)) (fun c179 => ?_)
        refine lv_aload_n hx hb dX7_takeCompound_50 rfl (lv_at hl 1 rfl) ?_
        refine lv_aload_n hx hb dX7_takeCompound_51 rfl (lv_at hl 1 rfl) ?_
        refine hp_get (v := .ref (qb)) hx hb hts hown hZ ho137 fl_X7_30 rfl dX7_takeCompound_52 ?_
        have fx180 : V126 (qb) = some (.inr (0, [.ref (qb + 1), .int (bc), .ref (qb + 14), .ref (qb + 75), .int (bv), .ref (qb + 76), .int (bl)])) := (fr131 (qb) (by omega)).trans ((o89 (qb) (by omega)).trans ((fr71 (qb) (by omega)).trans ((fr11 (qb) (by omega)).trans (hc4))))
        refine hp_get (v := .ref (qb + 14)) hx hb hts hown hZ fx180 fl_X7_83 rfl dX7_takeCompound_55 ?_
        refine lv_aload_n hx hb dX7_takeCompound_58 rfl (lv_at hl 1 rfl) ?_
        refine hp_get (v := .ref (qb)) hx hb hts hown hZ ho137 fl_X7_30 rfl dX7_takeCompound_59 ?_
        refine hp_get (v := .int (bv)) hx hb hts hown hZ fx180 fl_X7_80 rfl dX7_takeCompound_62 ?_
        have fx181 : V126 (kb + 3) = some (.inr (9, [.ref (kb + 3 + 1), .int (nz)])) := (fr131 (kb + 3) (hq_tne hy3 hy2 (by simp))).trans ((o89 (kb + 3) (hq_tne hy3 hy5 (by simp))).trans ((fr71 (kb + 3) (hq_tne hy3 hy2 (by simp))).trans ((fr11 (kb + 3) (hq_tne hy3 hy2 (by simp))).trans (hc1))))
        have fx182 : V126 (kb + 4) = some (.inl (cs 0, 12, .inl (nf))) := (fr131 (kb + 4) (hq_tne hy4 hy2 (by simp))).trans ((o89 (kb + 4) (hq_tne hy4 hy5 (by simp))).trans ((fr71 (kb + 4) (hq_tne hy4 hy2 (by simp))).trans ((fr11 (kb + 4) (hq_tne hy4 hy2 (by simp))).trans (hc2))))
        have fx183 : V126 (qb + 14) = some (.inl (cs 7, 30, .inr (.inr (.inr (.inr (g2)))))) := (fr131 (qb + 14) (by omega)).trans ((o89 (qb + 14) (by omega)).trans ((fr71 (qb + 14) (by omega)).trans ((fr11 (qb + 14) (by omega)).trans (hg2))))
        have pk184 := pk125.keep (fr131 (kb) (hq_tne hy0 hy2 (by simp))) (fr131 (kb + 1) (hq_tne hy1 hy2 (by simp)))
        have pk185 := hp2.keep (fun x7 (hx7 : qb + 15 ≤ x7 ∧ x7 < qb + 15 + 2 * vn.length) => (fr131 x7 (by omega)).trans ((o89 x7 (by omega)).trans ((fr71 x7 (by omega)).trans (fr11 x7 (by omega)))))
        refine hp_calli (hp_runV (As := [.ref (qb + 14), .int (bv)]) (rest := [.ref (it)]) hx hb hml hown hts (x_takeName l D cs B G V126 n hP.1 (kb) (qb) (w) ((sp_take w 12 ((sp_num w 5 ((sp_take w 11 j).2)).2.1)).2) (qb + 14) (qb + 15) (30) (vn) (bv) (g2) (z132) (z133) (z134) (z135) (z136) (nz) (nf) hy0 hy1 hy2 hy3 hy4 ho137 fx181 fx182 fx183 pk184 hA174 hr2 pk185 hbv (by decide) (by omega)) hZ ho137 cv_X7_90 rfl rfl ⟨Nat.le_of_ble_eq_true rfl, Nat.le_of_ble_eq_true rfl⟩ rfl hl.1 rfl (Nat.le_of_ble_eq_true rfl) dX7_takeCompound_65 ⟨(Nat.le_of_ble_eq_true rfl), (Nat.le_of_ble_eq_true rfl)⟩) hZ (fun r189 V186 n187 _ _ hw188 hZ => ?_)
        obtain ⟨rfl, hq190, fr191, z192, z193, z194, z195, z196, z197, u198, ho199, ho200, ho201, hp202, hp203⟩ := hw188
        have b204 := hq_rng z192
        have b205 := hq_rng z193
        have b206 := hq_rng z194
        have b207 := hq_rng z195
        have b208 := hq_rng z196
        have b209 := hq_rng z197
        have hP := hP.trans hq190 (fun _ h => Bool.noConfusion h)
        have hf210 := hq_rgB hP.1 hy4 ho201
        have b211 := hq_rng r189
        refine lv_goto (tgt := 72) hx hb dX7_takeCompound_68 (by decide) ?_
        have fx212 : V186 (it) = some (.inr (5, [.int (lk), .int (lo), .int (r69), .int (lp), .int (lh), .int (lht), .int (lpa), .int (lla), .ref (it + 1), .ref (it + 3)])) := (fr191 (it) (hq_tne hy5 hy2 (by simp)) (hq_tne hy5 hy3 (by simp)) (hq_tne hy5 hy4 (by simp))).trans ((fr131 (it) (hq_tne hy5 hy2 (by simp))).trans (e88))
        refine hp_put hx hb hts hown hZ fx212 fp_X7_161 rfl rfl (Nat.le_of_ble_eq_true rfl) dX7_takeCompound_72 (fun V213 _ _ e214 o215 hZ => ?_)
        have e214 : V213 (it) = some (.inr (5, [.int (lk), .int (lo), .int (r69), .int (lp), .int (r189), .int (lht), .int (lpa), .int (lla), .ref (it + 1), .ref (it + 3)])) := e214
        have hP := hP.put hy5 e214 o215 (hq_c5 hy6 hy8 (show -1 ≤ (r189).toInt by omega) (show (r189).toInt ≤ 29 by omega)) rfl
        refine lv_aload_n hx hb dX7_takeCompound_75 rfl (lv_at hl 2 rfl) ?_
        refine lv_aload_n hx hb dX7_takeCompound_76 rfl (lv_at hl 2 rfl) ?_
        refine hp_get (v := .int (r189)) hx hb hts hown hZ e214 fl_X7_161 rfl dX7_takeCompound_77 ?_
        refine lv_iconst (v := -1) hx hb dX7_takeCompound_80 (by decide) ?_
        refine lv_icmp_eq (tgt := 101) hx hb dX7_takeCompound_81 (by decide) (fun c216 => ?_) (fun c216 => ?_)
        · have c216 : (r189).toInt = (-1 : Int) := hq_eqi.mp c216
          have hF217 := hx_D.pos hp202 (by omega)
          have b218 := hF217.1
          have b219 := hF217.2.1
          refine lv_iconst (v := -1) hx hb dX7_takeCompound_101 (by decide) ?_
          refine hp_put hx hb hts hown hZ e214 fp_X7_164 rfl rfl (Nat.le_of_ble_eq_true rfl) dX7_takeCompound_102 (fun V220 _ _ e221 o222 hZ => ?_)
          have e221 : V220 (it) = some (.inr (5, [.int (lk), .int (lo), .int (r69), .int (lp), .int (r189), .int (-1), .int (lpa), .int (lla), .ref (it + 1), .ref (it + 3)])) := e221
          have hP := hP.put hy5 e221 o222 (hq_c5 hy6 hy8 (show -1 ≤ (r189).toInt by omega) (show (r189).toInt ≤ 29 by omega)) rfl
          refine lv_aload_n hx hb dX7_takeCompound_105 rfl (lv_at hl 2 rfl) ?_
          refine lv_aload_n hx hb dX7_takeCompound_106 rfl (lv_at hl 2 rfl) ?_
          refine hp_get (v := .int (-1)) hx hb hts hown hZ e221 fl_X7_164 rfl dX7_takeCompound_107 ?_
          refine lv_iconst (v := -1) hx hb dX7_takeCompound_110 (by decide) ?_
          refine lv_icmp_eq (tgt := 131) hx hb dX7_takeCompound_111 (by decide) (fun c223 => ?_) (fun c223 => absurd (by decide) c223)
          refine lv_iconst (v := -1) hx hb dX7_takeCompound_131 (by decide) ?_
          refine hp_put hx hb hts hown hZ e221 fp_X7_167 rfl rfl (Nat.le_of_ble_eq_true rfl) dX7_takeCompound_132 (fun V224 _ _ e225 o226 hZ => ?_)
          have e225 : V224 (it) = some (.inr (5, [.int (lk), .int (lo), .int (r69), .int (lp), .int (r189), .int (-1), .int (-1), .int (lla), .ref (it + 1), .ref (it + 3)])) := e225
          have hP := hP.put hy5 e225 o226 (hq_c5 hy6 hy8 (show -1 ≤ (r189).toInt by omega) (show (r189).toInt ≤ 29 by omega)) rfl
          refine lv_aload_n hx hb dX7_takeCompound_135 rfl (lv_at hl 2 rfl) ?_
          refine hp_get (v := .int (-1)) hx hb hts hown hZ e225 fl_X7_167 rfl dX7_takeCompound_136 ?_
          refine lv_iconst (v := -1) hx hb dX7_takeCompound_139 (by decide) ?_
          refine lv_icmp_eq (tgt := 147) hx hb dX7_takeCompound_140 (by decide) (fun c227 => ?_) (fun c227 => absurd (by decide) c227)
          refine lv_iconst (v := 0) hx hb dX7_takeCompound_147 (by decide) ?_
          have hl228 : (0 : Int32).toInt = 0 := by decide
          have fx229 : V224 (kb + 2) = some (.inr (7, [.int (z192), .int (z193), .ref (kb), .ref (qb), .int (z194), .int (z195), .int (z196), .ref (kb + 3)])) := (o226 (kb + 2) (hq_tne hy2 hy5 (by simp))).trans ((o222 (kb + 2) (hq_tne hy2 hy5 (by simp))).trans ((o215 (kb + 2) (hq_tne hy2 hy5 (by simp))).trans (ho199)))
          have fx230 : V224 (kb + 3) = some (.inr (9, [.ref (kb + 4), .int (z197)])) := (o226 (kb + 3) (hq_tne hy3 hy5 (by simp))).trans ((o222 (kb + 3) (hq_tne hy3 hy5 (by simp))).trans ((o215 (kb + 3) (hq_tne hy3 hy5 (by simp))).trans (ho200)))
          have fx231 : V224 (kb + 4) = some (.inl (cs 0, 12, .inl (u198))) := (o226 (kb + 4) (hq_tne hy4 hy5 (by simp))).trans ((o222 (kb + 4) (hq_tne hy4 hy5 (by simp))).trans ((o215 (kb + 4) (hq_tne hy4 hy5 (by simp))).trans (ho201)))
          have hl232 : (-1 : Int32).toInt = -1 := by decide
          have hl233 : (-1 : Int32).toInt = -1 := by decide
          exact hp_zret hx hb hr rfl hlocks hZ ⟨rfl, hP, (fun x8 hne0 hne1 hne2 hne3 => (o226 x8 hne3).trans ((o222 x8 hne3).trans ((o215 x8 hne3).trans ((fr191 x8 hne0 hne1 hne2).trans ((fr131 x8 hne0).trans ((o89 x8 hne3).trans ((fr71 x8 hne0).trans (fr11 x8 hne0)))))))), z192, z193, z194, z195, z196, z197, u198, r69, r189, -1, -1, fx229, fx230, fx231, e225, hx_D.l (by omega) (by unfold sp_comp; (repeat (first | (rw [if_pos]; rotate_left; omega) | (rw [if_neg]; rotate_left; omega))); (try dsimp only); first | exact hF217 | exact ⟨by omega, by omega, by omega⟩), by omega, by omega⟩ dX7_takeCompound_148
        · have c216 : ¬ (r189).toInt = (-1 : Int) := fun h9 => c216 (hq_eqi.mpr h9)
          obtain ⟨b234, ⟨b235, b236, hA237⟩, b238⟩ := hx_D.neg hp202 (by omega)
          obtain ⟨b239, b240, b241, b242⟩ := id hA237
          refine lv_aload_n hx hb dX7_takeCompound_84 rfl (lv_at hl 1 rfl) ?_
          refine lv_bipush (v := 11) hx hb dX7_takeCompound_85 (by decide) ?_
          have fx243 : V213 (kb + 2) = some (.inr (7, [.int (z192), .int (z193), .ref (kb), .ref (qb), .int (z194), .int (z195), .int (z196), .ref (kb + 3)])) := (o215 (kb + 2) (hq_tne hy2 hy5 (by simp))).trans (ho199)
          have hl244 : (11 : Int32).toInt = 11 := by decide
          have pk245 := pk184.keep ((o215 (kb) (hq_tne hy0 hy5 (by simp))).trans (fr191 (kb) (hq_tne hy0 hy2 (by simp)) (hq_tne hy0 hy3 (by simp)) (hq_tne hy0 hy4 (by simp)))) ((o215 (kb + 1) (hq_tne hy1 hy5 (by simp))).trans (fr191 (kb + 1) (hq_tne hy1 hy2 (by simp)) (hq_tne hy1 hy3 (by simp)) (hq_tne hy1 hy4 (by simp))))
          refine hp_calli (hp_runV (As := [.int (11)]) (rest := [.ref (it)]) hx hb hml hown hts (x_take l D cs B G V213 n hP.1 (kb) (qb) (w) ((sp_old w vn ((sp_take w 12 ((sp_num w 5 ((sp_take w 11 j).2)).2.1)).2)).2.1) (11) (11) (z192) (z193) (z194) (z195) (z196) hy0 hy1 hy2 fx243 pk245 hA237 (by decide) (by decide)) hZ fx243 cv_X7_58 rfl rfl ⟨Nat.le_of_ble_eq_true rfl, Nat.le_of_ble_eq_true rfl⟩ rfl hl.1 rfl (Nat.le_of_ble_eq_true rfl) dX7_takeCompound_87 ⟨(Nat.le_of_ble_eq_true rfl), (Nat.le_of_ble_eq_true rfl)⟩) hZ (fun r249 V246 n247 _ _ hw248 hZ => ?_)
          obtain ⟨rfl, hq250, fr251, z252, z253, z254, z255, z256, ho257, hp258, hp259⟩ := hw248
          have b260 := hq_rng z252
          have b261 := hq_rng z253
          have b262 := hq_rng z254
          have b263 := hq_rng z255
          have b264 := hq_rng z256
          have hP := hP.trans hq250 (fun _ h => Bool.noConfusion h)
          have b265 := hq_rng r249
          refine lv_if_eq (tgt := 101) hx hb dX7_takeCompound_90 (by decide) (fun c266 => ?_) (fun c266 => ?_)
          · have c266 : (r249).toInt = (0 : Int) := hq_eqi.mp c266
            have hF267 := hx_D.pos hp258 (by omega)
            have b268 := hF267.1
            have b269 := hF267.2.1
            refine lv_iconst (v := -1) hx hb dX7_takeCompound_101 (by decide) ?_
            have fx270 : V246 (it) = some (.inr (5, [.int (lk), .int (lo), .int (r69), .int (lp), .int (r189), .int (lht), .int (lpa), .int (lla), .ref (it + 1), .ref (it + 3)])) := (fr251 (it) (hq_tne hy5 hy2 (by simp))).trans (e214)
            refine hp_put hx hb hts hown hZ fx270 fp_X7_164 rfl rfl (Nat.le_of_ble_eq_true rfl) dX7_takeCompound_102 (fun V271 _ _ e272 o273 hZ => ?_)
            have e272 : V271 (it) = some (.inr (5, [.int (lk), .int (lo), .int (r69), .int (lp), .int (r189), .int (-1), .int (lpa), .int (lla), .ref (it + 1), .ref (it + 3)])) := e272
            have hP := hP.put hy5 e272 o273 (hq_c5 hy6 hy8 (show -1 ≤ (r189).toInt by omega) (show (r189).toInt ≤ 29 by omega)) rfl
            refine lv_aload_n hx hb dX7_takeCompound_105 rfl (lv_at hl 2 rfl) ?_
            refine lv_aload_n hx hb dX7_takeCompound_106 rfl (lv_at hl 2 rfl) ?_
            refine hp_get (v := .int (-1)) hx hb hts hown hZ e272 fl_X7_164 rfl dX7_takeCompound_107 ?_
            refine lv_iconst (v := -1) hx hb dX7_takeCompound_110 (by decide) ?_
            refine lv_icmp_eq (tgt := 131) hx hb dX7_takeCompound_111 (by decide) (fun c274 => ?_) (fun c274 => absurd (by decide) c274)
            refine lv_iconst (v := -1) hx hb dX7_takeCompound_131 (by decide) ?_
            refine hp_put hx hb hts hown hZ e272 fp_X7_167 rfl rfl (Nat.le_of_ble_eq_true rfl) dX7_takeCompound_132 (fun V275 _ _ e276 o277 hZ => ?_)
            have e276 : V275 (it) = some (.inr (5, [.int (lk), .int (lo), .int (r69), .int (lp), .int (r189), .int (-1), .int (-1), .int (lla), .ref (it + 1), .ref (it + 3)])) := e276
            have hP := hP.put hy5 e276 o277 (hq_c5 hy6 hy8 (show -1 ≤ (r189).toInt by omega) (show (r189).toInt ≤ 29 by omega)) rfl
            refine lv_aload_n hx hb dX7_takeCompound_135 rfl (lv_at hl 2 rfl) ?_
            refine hp_get (v := .int (-1)) hx hb hts hown hZ e276 fl_X7_167 rfl dX7_takeCompound_136 ?_
            refine lv_iconst (v := -1) hx hb dX7_takeCompound_139 (by decide) ?_
            refine lv_icmp_eq (tgt := 147) hx hb dX7_takeCompound_140 (by decide) (fun c278 => ?_) (fun c278 => absurd (by decide) c278)
            refine lv_iconst (v := 0) hx hb dX7_takeCompound_147 (by decide) ?_
            have hl279 : (0 : Int32).toInt = 0 := by decide
            have fx280 : V275 (kb + 2) = some (.inr (7, [.int (z252), .int (z253), .ref (kb), .ref (qb), .int (z254), .int (z255), .int (z256), .ref (kb + 3)])) := (o277 (kb + 2) (hq_tne hy2 hy5 (by simp))).trans ((o273 (kb + 2) (hq_tne hy2 hy5 (by simp))).trans (ho257))
            have fx281 : V275 (kb + 3) = some (.inr (9, [.ref (kb + 4), .int (z197)])) := (o277 (kb + 3) (hq_tne hy3 hy5 (by simp))).trans ((o273 (kb + 3) (hq_tne hy3 hy5 (by simp))).trans ((fr251 (kb + 3) (hq_tne hy3 hy2 (by simp))).trans ((o215 (kb + 3) (hq_tne hy3 hy5 (by simp))).trans (ho200))))
            have fx282 : V275 (kb + 4) = some (.inl (cs 0, 12, .inl (u198))) := (o277 (kb + 4) (hq_tne hy4 hy5 (by simp))).trans ((o273 (kb + 4) (hq_tne hy4 hy5 (by simp))).trans ((fr251 (kb + 4) (hq_tne hy4 hy2 (by simp))).trans ((o215 (kb + 4) (hq_tne hy4 hy5 (by simp))).trans (ho201))))
            have hl283 : (-1 : Int32).toInt = -1 := by decide
            have hl284 : (-1 : Int32).toInt = -1 := by decide
            exact hp_zret hx hb hr rfl hlocks hZ ⟨rfl, hP, (fun x8 hne0 hne1 hne2 hne3 => (o277 x8 hne3).trans ((o273 x8 hne3).trans ((fr251 x8 hne0).trans ((o215 x8 hne3).trans ((fr191 x8 hne0 hne1 hne2).trans ((fr131 x8 hne0).trans ((o89 x8 hne3).trans ((fr71 x8 hne0).trans (fr11 x8 hne0))))))))), z252, z253, z254, z255, z256, z197, u198, r69, r189, -1, -1, fx280, fx281, fx282, e276, hx_D.l (by omega) (by unfold sp_comp; (repeat (first | (rw [if_pos]; rotate_left; omega) | (rw [if_neg]; rotate_left; omega))); (try dsimp only); first | exact hF267 | exact ⟨by omega, by omega, by omega⟩), by omega, by omega⟩ dX7_takeCompound_148
          · have c266 : ¬ (r249).toInt = (0 : Int) := fun h9 => c266 (hq_eqi.mpr h9)
            obtain ⟨b285, ⟨b286, b287, hA288⟩⟩ := hx_D.neg hp258 (by omega)
            obtain ⟨b289, b290, b291, b292⟩ := id hA288
            refine lv_aload_n hx hb dX7_takeCompound_93 rfl (lv_at hl 1 rfl) ?_
            refine lv_iconst (v := 5) hx hb dX7_takeCompound_94 (by decide) ?_
            have hl293 : (5 : Int32).toInt = 5 := by decide
            have pk294 := pk245.keep (fr251 (kb) (hq_tne hy0 hy2 (by simp))) (fr251 (kb + 1) (hq_tne hy1 hy2 (by simp)))
            refine hp_calli (hp_runV (As := [.int (5)]) (rest := [.ref (it)]) hx hb hml hown hts (x_takeNumber l D cs B G V246 n hP.1 (kb) (qb) (w) ((sp_take w 11 ((sp_old w vn ((sp_take w 12 ((sp_num w 5 ((sp_take w 11 j).2)).2.1)).2)).2.1)).2) (5) (5) (z252) (z253) (z254) (z255) (z256) hy0 hy1 hy2 ho257 pk294 hA288 (by decide) (by decide)) hZ ho257 cv_X7_141 rfl rfl ⟨Nat.le_of_ble_eq_true rfl, Nat.le_of_ble_eq_true rfl⟩ rfl hl.1 rfl (Nat.le_of_ble_eq_true rfl) dX7_takeCompound_95 ⟨(Nat.le_of_ble_eq_true rfl), (Nat.le_of_ble_eq_true rfl)⟩) hZ (fun r298 V295 n296 _ _ hw297 hZ => ?_)
            obtain ⟨rfl, hq299, fr300, z301, z302, z303, z304, z305, ho306, hp307, hp308⟩ := hw297
            have b309 := hq_rng z301
            have b310 := hq_rng z302
            have b311 := hq_rng z303
            have b312 := hq_rng z304
            have b313 := hq_rng z305
            have hP := hP.trans hq299 (fun _ h => Bool.noConfusion h)
            have b314 := hq_rng r298
            refine lv_goto (tgt := 102) hx hb dX7_takeCompound_98 (by decide) ?_
            have fx315 : V295 (it) = some (.inr (5, [.int (lk), .int (lo), .int (r69), .int (lp), .int (r189), .int (lht), .int (lpa), .int (lla), .ref (it + 1), .ref (it + 3)])) := (fr300 (it) (hq_tne hy5 hy2 (by simp))).trans ((fr251 (it) (hq_tne hy5 hy2 (by simp))).trans (e214))
            refine hp_put hx hb hts hown hZ fx315 fp_X7_164 rfl rfl (Nat.le_of_ble_eq_true rfl) dX7_takeCompound_102 (fun V316 _ _ e317 o318 hZ => ?_)
            have e317 : V316 (it) = some (.inr (5, [.int (lk), .int (lo), .int (r69), .int (lp), .int (r189), .int (r298), .int (lpa), .int (lla), .ref (it + 1), .ref (it + 3)])) := e317
            have hP := hP.put hy5 e317 o318 (hq_c5 hy6 hy8 (show -1 ≤ (r189).toInt by omega) (show (r189).toInt ≤ 29 by omega)) rfl
            refine lv_aload_n hx hb dX7_takeCompound_105 rfl (lv_at hl 2 rfl) ?_
            refine lv_aload_n hx hb dX7_takeCompound_106 rfl (lv_at hl 2 rfl) ?_
            refine hp_get (v := .int (r298)) hx hb hts hown hZ e317 fl_X7_164 rfl dX7_takeCompound_107 ?_
            refine lv_iconst (v := -1) hx hb dX7_takeCompound_110 (by decide) ?_
            refine lv_icmp_eq (tgt := 131) hx hb dX7_takeCompound_111 (by decide) (fun c319 => ?_) (fun c319 => ?_)
            · have c319 : (r298).toInt = (-1 : Int) := hq_eqi.mp c319
              have hF320 := hx_D.pos hp307 (by omega)
              have b321 := hF320.1
              have b322 := hF320.2.1
              refine lv_iconst (v := -1) hx hb dX7_takeCompound_131 (by decide) ?_
              refine hp_put hx hb hts hown hZ e317 fp_X7_167 rfl rfl (Nat.le_of_ble_eq_true rfl) dX7_takeCompound_132 (fun V323 _ _ e324 o325 hZ => ?_)
              have e324 : V323 (it) = some (.inr (5, [.int (lk), .int (lo), .int (r69), .int (lp), .int (r189), .int (r298), .int (-1), .int (lla), .ref (it + 1), .ref (it + 3)])) := e324
              have hP := hP.put hy5 e324 o325 (hq_c5 hy6 hy8 (show -1 ≤ (r189).toInt by omega) (show (r189).toInt ≤ 29 by omega)) rfl
              refine lv_aload_n hx hb dX7_takeCompound_135 rfl (lv_at hl 2 rfl) ?_
              refine hp_get (v := .int (-1)) hx hb hts hown hZ e324 fl_X7_167 rfl dX7_takeCompound_136 ?_
              refine lv_iconst (v := -1) hx hb dX7_takeCompound_139 (by decide) ?_
              refine lv_icmp_eq (tgt := 147) hx hb dX7_takeCompound_140 (by decide) (fun c326 => ?_) (fun c326 => absurd (by decide) c326)
              refine lv_iconst (v := 0) hx hb dX7_takeCompound_147 (by decide) ?_
              have hl327 : (0 : Int32).toInt = 0 := by decide
              have fx328 : V323 (kb + 2) = some (.inr (7, [.int (z301), .int (z302), .ref (kb), .ref (qb), .int (z303), .int (z304), .int (z305), .ref (kb + 3)])) := (o325 (kb + 2) (hq_tne hy2 hy5 (by simp))).trans ((o318 (kb + 2) (hq_tne hy2 hy5 (by simp))).trans (ho306))
              have fx329 : V323 (kb + 3) = some (.inr (9, [.ref (kb + 4), .int (z197)])) := (o325 (kb + 3) (hq_tne hy3 hy5 (by simp))).trans ((o318 (kb + 3) (hq_tne hy3 hy5 (by simp))).trans ((fr300 (kb + 3) (hq_tne hy3 hy2 (by simp))).trans ((fr251 (kb + 3) (hq_tne hy3 hy2 (by simp))).trans ((o215 (kb + 3) (hq_tne hy3 hy5 (by simp))).trans (ho200)))))
              have fx330 : V323 (kb + 4) = some (.inl (cs 0, 12, .inl (u198))) := (o325 (kb + 4) (hq_tne hy4 hy5 (by simp))).trans ((o318 (kb + 4) (hq_tne hy4 hy5 (by simp))).trans ((fr300 (kb + 4) (hq_tne hy4 hy2 (by simp))).trans ((fr251 (kb + 4) (hq_tne hy4 hy2 (by simp))).trans ((o215 (kb + 4) (hq_tne hy4 hy5 (by simp))).trans (ho201)))))
              have hl331 : (-1 : Int32).toInt = -1 := by decide
              exact hp_zret hx hb hr rfl hlocks hZ ⟨rfl, hP, (fun x8 hne0 hne1 hne2 hne3 => (o325 x8 hne3).trans ((o318 x8 hne3).trans ((fr300 x8 hne0).trans ((fr251 x8 hne0).trans ((o215 x8 hne3).trans ((fr191 x8 hne0 hne1 hne2).trans ((fr131 x8 hne0).trans ((o89 x8 hne3).trans ((fr71 x8 hne0).trans (fr11 x8 hne0)))))))))), z301, z302, z303, z304, z305, z197, u198, r69, r189, r298, -1, fx328, fx329, fx330, e324, hx_D.l (by omega) (by unfold sp_comp; (repeat (first | (rw [if_pos]; rotate_left; omega) | (rw [if_neg]; rotate_left; omega))); (try dsimp only); first | exact hF320 | exact ⟨by omega, by omega, by omega⟩), by omega, by omega⟩ dX7_takeCompound_148
            · have c319 : ¬ (r298).toInt = (-1 : Int) := fun h9 => c319 (hq_eqi.mpr h9)
              obtain ⟨b332, ⟨b333, b334, hA335⟩, b336⟩ := hx_D.neg hp307 (by omega)
              obtain ⟨b337, b338, b339, b340⟩ := id hA335
              refine lv_aload_n hx hb dX7_takeCompound_114 rfl (lv_at hl 1 rfl) ?_
              refine lv_bipush (v := 13) hx hb dX7_takeCompound_115 (by decide) ?_
              have fx341 : V316 (kb + 2) = some (.inr (7, [.int (z301), .int (z302), .ref (kb), .ref (qb), .int (z303), .int (z304), .int (z305), .ref (kb + 3)])) := (o318 (kb + 2) (hq_tne hy2 hy5 (by simp))).trans (ho306)
              have hl342 : (13 : Int32).toInt = 13 := by decide
              have pk343 := pk294.keep ((o318 (kb) (hq_tne hy0 hy5 (by simp))).trans (fr300 (kb) (hq_tne hy0 hy2 (by simp)))) ((o318 (kb + 1) (hq_tne hy1 hy5 (by simp))).trans (fr300 (kb + 1) (hq_tne hy1 hy2 (by simp))))
              refine hp_calli (hp_runV (As := [.int (13)]) (rest := [.ref (it)]) hx hb hml hown hts (x_take l D cs B G V316 n hP.1 (kb) (qb) (w) ((sp_num w 5 ((sp_take w 11 ((sp_old w vn ((sp_take w 12 ((sp_num w 5 ((sp_take w 11 j).2)).2.1)).2)).2.1)).2)).2.1) (13) (13) (z301) (z302) (z303) (z304) (z305) hy0 hy1 hy2 fx341 pk343 hA335 (by decide) (by decide)) hZ fx341 cv_X7_58 rfl rfl ⟨Nat.le_of_ble_eq_true rfl, Nat.le_of_ble_eq_true rfl⟩ rfl hl.1 rfl (Nat.le_of_ble_eq_true rfl) dX7_takeCompound_117 ⟨(Nat.le_of_ble_eq_true rfl), (Nat.le_of_ble_eq_true rfl)⟩) hZ (fun r347 V344 n345 _ _ hw346 hZ => ?_)
              obtain ⟨rfl, hq348, fr349, z350, z351, z352, z353, z354, ho355, hp356, hp357⟩ := hw346
              have b358 := hq_rng z350
              have b359 := hq_rng z351
              have b360 := hq_rng z352
              have b361 := hq_rng z353
              have b362 := hq_rng z354
              have hP := hP.trans hq348 (fun _ h => Bool.noConfusion h)
              have b363 := hq_rng r347
              refine lv_if_eq (tgt := 131) hx hb dX7_takeCompound_120 (by decide) (fun c364 => ?_) (fun c364 => ?_)
              · have c364 : (r347).toInt = (0 : Int) := hq_eqi.mp c364
                have hF365 := hx_D.pos hp356 (by omega)
                have b366 := hF365.1
                have b367 := hF365.2.1
                refine lv_iconst (v := -1) hx hb dX7_takeCompound_131 (by decide) ?_
                have fx368 : V344 (it) = some (.inr (5, [.int (lk), .int (lo), .int (r69), .int (lp), .int (r189), .int (r298), .int (lpa), .int (lla), .ref (it + 1), .ref (it + 3)])) := (fr349 (it) (hq_tne hy5 hy2 (by simp))).trans (e317)
                refine hp_put hx hb hts hown hZ fx368 fp_X7_167 rfl rfl (Nat.le_of_ble_eq_true rfl) dX7_takeCompound_132 (fun V369 _ _ e370 o371 hZ => ?_)
                have e370 : V369 (it) = some (.inr (5, [.int (lk), .int (lo), .int (r69), .int (lp), .int (r189), .int (r298), .int (-1), .int (lla), .ref (it + 1), .ref (it + 3)])) := e370
                have hP := hP.put hy5 e370 o371 (hq_c5 hy6 hy8 (show -1 ≤ (r189).toInt by omega) (show (r189).toInt ≤ 29 by omega)) rfl
                refine lv_aload_n hx hb dX7_takeCompound_135 rfl (lv_at hl 2 rfl) ?_
                refine hp_get (v := .int (-1)) hx hb hts hown hZ e370 fl_X7_167 rfl dX7_takeCompound_136 ?_
                refine lv_iconst (v := -1) hx hb dX7_takeCompound_139 (by decide) ?_
                refine lv_icmp_eq (tgt := 147) hx hb dX7_takeCompound_140 (by decide) (fun c372 => ?_) (fun c372 => absurd (by decide) c372)
                refine lv_iconst (v := 0) hx hb dX7_takeCompound_147 (by decide) ?_
                have hl373 : (0 : Int32).toInt = 0 := by decide
                have fx374 : V369 (kb + 2) = some (.inr (7, [.int (z350), .int (z351), .ref (kb), .ref (qb), .int (z352), .int (z353), .int (z354), .ref (kb + 3)])) := (o371 (kb + 2) (hq_tne hy2 hy5 (by simp))).trans (ho355)
                have fx375 : V369 (kb + 3) = some (.inr (9, [.ref (kb + 4), .int (z197)])) := (o371 (kb + 3) (hq_tne hy3 hy5 (by simp))).trans ((fr349 (kb + 3) (hq_tne hy3 hy2 (by simp))).trans ((o318 (kb + 3) (hq_tne hy3 hy5 (by simp))).trans ((fr300 (kb + 3) (hq_tne hy3 hy2 (by simp))).trans ((fr251 (kb + 3) (hq_tne hy3 hy2 (by simp))).trans ((o215 (kb + 3) (hq_tne hy3 hy5 (by simp))).trans (ho200))))))
                have fx376 : V369 (kb + 4) = some (.inl (cs 0, 12, .inl (u198))) := (o371 (kb + 4) (hq_tne hy4 hy5 (by simp))).trans ((fr349 (kb + 4) (hq_tne hy4 hy2 (by simp))).trans ((o318 (kb + 4) (hq_tne hy4 hy5 (by simp))).trans ((fr300 (kb + 4) (hq_tne hy4 hy2 (by simp))).trans ((fr251 (kb + 4) (hq_tne hy4 hy2 (by simp))).trans ((o215 (kb + 4) (hq_tne hy4 hy5 (by simp))).trans (ho201))))))
                have hl377 : (-1 : Int32).toInt = -1 := by decide
                exact hp_zret hx hb hr rfl hlocks hZ ⟨rfl, hP, (fun x8 hne0 hne1 hne2 hne3 => (o371 x8 hne3).trans ((fr349 x8 hne0).trans ((o318 x8 hne3).trans ((fr300 x8 hne0).trans ((fr251 x8 hne0).trans ((o215 x8 hne3).trans ((fr191 x8 hne0 hne1 hne2).trans ((fr131 x8 hne0).trans ((o89 x8 hne3).trans ((fr71 x8 hne0).trans (fr11 x8 hne0))))))))))), z350, z351, z352, z353, z354, z197, u198, r69, r189, r298, -1, fx374, fx375, fx376, e370, hx_D.l (by omega) (by unfold sp_comp; (repeat (first | (rw [if_pos]; rotate_left; omega) | (rw [if_neg]; rotate_left; omega))); (try dsimp only); first | exact hF365 | exact ⟨by omega, by omega, by omega⟩), by omega, by omega⟩ dX7_takeCompound_148
              · have c364 : ¬ (r347).toInt = (0 : Int) := fun h9 => c364 (hq_eqi.mpr h9)
                obtain ⟨b378, ⟨b379, b380, hA381⟩⟩ := hx_D.neg hp356 (by omega)
                obtain ⟨b382, b383, b384, b385⟩ := id hA381
                refine lv_aload_n hx hb dX7_takeCompound_123 rfl (lv_at hl 1 rfl) ?_
                refine lv_iconst (v := 5) hx hb dX7_takeCompound_124 (by decide) ?_
                have hl386 : (5 : Int32).toInt = 5 := by decide
                have pk387 := pk343.keep (fr349 (kb) (hq_tne hy0 hy2 (by simp))) (fr349 (kb + 1) (hq_tne hy1 hy2 (by simp)))
                refine hp_calli (hp_runV (As := [.int (5)]) (rest := [.ref (it)]) hx hb hml hown hts (x_takeNumber l D cs B G V344 n hP.1 (kb) (qb) (w) ((sp_take w 13 ((sp_num w 5 ((sp_take w 11 ((sp_old w vn ((sp_take w 12 ((sp_num w 5 ((sp_take w 11 j).2)).2.1)).2)).2.1)).2)).2.1)).2) (5) (5) (z350) (z351) (z352) (z353) (z354) hy0 hy1 hy2 ho355 pk387 hA381 (by decide) (by decide)) hZ ho355 cv_X7_141 rfl rfl ⟨Nat.le_of_ble_eq_true rfl, Nat.le_of_ble_eq_true rfl⟩ rfl hl.1 rfl (Nat.le_of_ble_eq_true rfl) dX7_takeCompound_125 ⟨(Nat.le_of_ble_eq_true rfl), (Nat.le_of_ble_eq_true rfl)⟩) hZ (fun r391 V388 n389 _ _ hw390 hZ => ?_)
                obtain ⟨rfl, hq392, fr393, z394, z395, z396, z397, z398, ho399, hp400, hp401⟩ := hw390
                have b402 := hq_rng z394
                have b403 := hq_rng z395
                have b404 := hq_rng z396
                have b405 := hq_rng z397
                have b406 := hq_rng z398
                have hP := hP.trans hq392 (fun _ h => Bool.noConfusion h)
                have b407 := hq_rng r391
                refine lv_goto (tgt := 132) hx hb dX7_takeCompound_128 (by decide) ?_
                have fx408 : V388 (it) = some (.inr (5, [.int (lk), .int (lo), .int (r69), .int (lp), .int (r189), .int (r298), .int (lpa), .int (lla), .ref (it + 1), .ref (it + 3)])) := (fr393 (it) (hq_tne hy5 hy2 (by simp))).trans ((fr349 (it) (hq_tne hy5 hy2 (by simp))).trans (e317))
                refine hp_put hx hb hts hown hZ fx408 fp_X7_167 rfl rfl (Nat.le_of_ble_eq_true rfl) dX7_takeCompound_132 (fun V409 _ _ e410 o411 hZ => ?_)
                have e410 : V409 (it) = some (.inr (5, [.int (lk), .int (lo), .int (r69), .int (lp), .int (r189), .int (r298), .int (r391), .int (lla), .ref (it + 1), .ref (it + 3)])) := e410
                have hP := hP.put hy5 e410 o411 (hq_c5 hy6 hy8 (show -1 ≤ (r189).toInt by omega) (show (r189).toInt ≤ 29 by omega)) rfl
                refine lv_aload_n hx hb dX7_takeCompound_135 rfl (lv_at hl 2 rfl) ?_
                refine hp_get (v := .int (r391)) hx hb hts hown hZ e410 fl_X7_167 rfl dX7_takeCompound_136 ?_
                refine lv_iconst (v := -1) hx hb dX7_takeCompound_139 (by decide) ?_
                refine lv_icmp_eq (tgt := 147) hx hb dX7_takeCompound_140 (by decide) (fun c412 => ?_) (fun c412 => ?_)
                · have c412 : (r391).toInt = (-1 : Int) := hq_eqi.mp c412
                  have hF413 := hx_D.pos hp400 (by omega)
                  have b414 := hF413.1
                  have b415 := hF413.2.1
                  refine lv_iconst (v := 0) hx hb dX7_takeCompound_147 (by decide) ?_
                  have hl416 : (0 : Int32).toInt = 0 := by decide
                  have fx417 : V409 (kb + 2) = some (.inr (7, [.int (z394), .int (z395), .ref (kb), .ref (qb), .int (z396), .int (z397), .int (z398), .ref (kb + 3)])) := (o411 (kb + 2) (hq_tne hy2 hy5 (by simp))).trans (ho399)
                  have fx418 : V409 (kb + 3) = some (.inr (9, [.ref (kb + 4), .int (z197)])) := (o411 (kb + 3) (hq_tne hy3 hy5 (by simp))).trans ((fr393 (kb + 3) (hq_tne hy3 hy2 (by simp))).trans ((fr349 (kb + 3) (hq_tne hy3 hy2 (by simp))).trans ((o318 (kb + 3) (hq_tne hy3 hy5 (by simp))).trans ((fr300 (kb + 3) (hq_tne hy3 hy2 (by simp))).trans ((fr251 (kb + 3) (hq_tne hy3 hy2 (by simp))).trans ((o215 (kb + 3) (hq_tne hy3 hy5 (by simp))).trans (ho200)))))))
                  have fx419 : V409 (kb + 4) = some (.inl (cs 0, 12, .inl (u198))) := (o411 (kb + 4) (hq_tne hy4 hy5 (by simp))).trans ((fr393 (kb + 4) (hq_tne hy4 hy2 (by simp))).trans ((fr349 (kb + 4) (hq_tne hy4 hy2 (by simp))).trans ((o318 (kb + 4) (hq_tne hy4 hy5 (by simp))).trans ((fr300 (kb + 4) (hq_tne hy4 hy2 (by simp))).trans ((fr251 (kb + 4) (hq_tne hy4 hy2 (by simp))).trans ((o215 (kb + 4) (hq_tne hy4 hy5 (by simp))).trans (ho201)))))))
                  exact hp_zret hx hb hr rfl hlocks hZ ⟨rfl, hP, (fun x8 hne0 hne1 hne2 hne3 => (o411 x8 hne3).trans ((fr393 x8 hne0).trans ((fr349 x8 hne0).trans ((o318 x8 hne3).trans ((fr300 x8 hne0).trans ((fr251 x8 hne0).trans ((o215 x8 hne3).trans ((fr191 x8 hne0 hne1 hne2).trans ((fr131 x8 hne0).trans ((o89 x8 hne3).trans ((fr71 x8 hne0).trans (fr11 x8 hne0)))))))))))), z394, z395, z396, z397, z398, z197, u198, r69, r189, r298, r391, fx417, fx418, fx419, e410, hx_D.l (by omega) (by unfold sp_comp; (repeat (first | (rw [if_pos]; rotate_left; omega) | (rw [if_neg]; rotate_left; omega))); (try dsimp only); first | exact hF413 | exact ⟨by omega, by omega, by omega⟩), by omega, by omega⟩ dX7_takeCompound_148
                · have c412 : ¬ (r391).toInt = (-1 : Int) := fun h9 => c412 (hq_eqi.mpr h9)
                  obtain ⟨b420, ⟨b421, b422, hA423⟩, b424⟩ := hx_D.neg hp400 (by omega)
                  obtain ⟨b425, b426, b427, b428⟩ := id hA423
                  refine lv_iconst (v := 1) hx hb dX7_takeCompound_143 (by decide) ?_
                  refine lv_goto (tgt := 148) hx hb dX7_takeCompound_144 (by decide) ?_
                  have hl429 : (1 : Int32).toInt = 1 := by decide
                  have fx430 : V409 (kb + 2) = some (.inr (7, [.int (z394), .int (z395), .ref (kb), .ref (qb), .int (z396), .int (z397), .int (z398), .ref (kb + 3)])) := (o411 (kb + 2) (hq_tne hy2 hy5 (by simp))).trans (ho399)
                  have fx431 : V409 (kb + 3) = some (.inr (9, [.ref (kb + 4), .int (z197)])) := (o411 (kb + 3) (hq_tne hy3 hy5 (by simp))).trans ((fr393 (kb + 3) (hq_tne hy3 hy2 (by simp))).trans ((fr349 (kb + 3) (hq_tne hy3 hy2 (by simp))).trans ((o318 (kb + 3) (hq_tne hy3 hy5 (by simp))).trans ((fr300 (kb + 3) (hq_tne hy3 hy2 (by simp))).trans ((fr251 (kb + 3) (hq_tne hy3 hy2 (by simp))).trans ((o215 (kb + 3) (hq_tne hy3 hy5 (by simp))).trans (ho200)))))))
                  have fx432 : V409 (kb + 4) = some (.inl (cs 0, 12, .inl (u198))) := (o411 (kb + 4) (hq_tne hy4 hy5 (by simp))).trans ((fr393 (kb + 4) (hq_tne hy4 hy2 (by simp))).trans ((fr349 (kb + 4) (hq_tne hy4 hy2 (by simp))).trans ((o318 (kb + 4) (hq_tne hy4 hy5 (by simp))).trans ((fr300 (kb + 4) (hq_tne hy4 hy2 (by simp))).trans ((fr251 (kb + 4) (hq_tne hy4 hy2 (by simp))).trans ((o215 (kb + 4) (hq_tne hy4 hy5 (by simp))).trans (ho201)))))))
                  exact hp_zret hx hb hr rfl hlocks hZ ⟨rfl, hP, (fun x8 hne0 hne1 hne2 hne3 => (o411 x8 hne3).trans ((fr393 x8 hne0).trans ((fr349 x8 hne0).trans ((o318 x8 hne3).trans ((fr300 x8 hne0).trans ((fr251 x8 hne0).trans ((o215 x8 hne3).trans ((fr191 x8 hne0 hne1 hne2).trans ((fr131 x8 hne0).trans ((o89 x8 hne3).trans ((fr71 x8 hne0).trans (fr11 x8 hne0)))))))))))), z394, z395, z396, z397, z398, z197, u198, r69, r189, r298, r391, fx430, fx431, fx432, e410, hx_D.r (by omega) (by unfold sp_comp; (repeat (first | (rw [if_pos]; rotate_left; omega) | (rw [if_neg]; rotate_left; omega))); (try dsimp only); exact ⟨by first | rfl | omega, ⟨by omega, by omega, hA423⟩, by omega, by omega⟩), by omega, by omega⟩ dX7_takeCompound_148

set_option maxHeartbeats 4000000 in
set_option maxRecDepth 100000 in
theorem x_takeChange (l : Launch) (D : va_G) (cs : Nat → ClassId) (B : Nat) (G : hq_G) (V : hp_V) (n : Nat) (hI : hq_I cs G V) (kb : Nat) (qb : Nat) (w : sp_W) (it : Nat) (bb : Nat) (j : Nat) (fk : Int32) (fp : Int32) (nx : Int32) (tk : Int32) (st : Int32) (lk : Int32) (lo : Int32) (lt : Int32) (lp : Int32) (lh : Int32) (lht : Int32) (lpa : Int32) (lla : Int32) (fz : Int32) (ff : Nat → Int32) (sz : Int32) (sf : Nat → Int32) (hy0 : G (kb) = some (0, 4000, 0, 0)) (hy1 : G (kb + 1) = some (1, 4000, 0, 0)) (hy2 : G (kb + 2) = some (10, 0, 0, 0)) (hy3 : G (it) = some (5, bb, 0, 0)) (hy4 : G (it + 1) = some (0, 8, 0, 0)) (hy5 : G (it + 2) = some (1, 8, 0, 0)) (hy6 : G (it + 3) = some (0, 8, 0, 0)) (hy7 : G (it + 4) = some (1, 8, 0, 0)) (hc0 : V (kb + 2) = some (.inr (7, [.int (fk), .int (fp), .ref (kb), .ref (qb), .int (nx), .int (tk), .int (st), .ref (kb + 3)]))) (hc1 : V (it) = some (.inr (5, [.int (lk), .int (lo), .int (lt), .int (lp), .int (lh), .int (lht), .int (lpa), .int (lla), .ref (it + 1), .ref (it + 3)]))) (hc2 : V (it + 1) = some (.inr (9, [.ref (it + 1 + 1), .int (fz)]))) (hc3 : V (it + 2) = some (.inl (cs 0, 8, .inl (ff)))) (hc4 : V (it + 3) = some (.inr (9, [.ref (it + 3 + 1), .int (sz)]))) (hc5 : V (it + 4) = some (.inl (cs 0, 8, .inl (sf)))) (hp0 : hx_TP cs V kb w) (hA : hx_A w j st nx tk) (hq : kb + 88 ≤ qb) (hit : qb + 77 ≤ it ∧ it + 5 ≤ qb + 377) (hfz : 0 ≤ fz.toInt ∧ fz.toInt ≤ 8) (hsz : 0 ≤ sz.toInt ∧ sz.toInt ≤ 8) : hp_M l yX7_takeChange cX7_takeChange 2 (some .boolean) ({ frames := 8, cells := 0, slots := 0, locals := 173 }) D cs B V n [.ref (kb + 2), .ref (it)] (hp_QI D cs B (fun r V' n' => n = n' ∧ hq_P cs G (fun _ => true) V V' ∧ (∀ x, x ≠ kb + 2 → x ≠ it + 1 → x ≠ it + 2 → x ≠ it + 3 → x ≠ it + 4 → V' x = V x) ∧ (∃ fk1 : Int32, ∃ fp1 : Int32, ∃ nx1 : Int32, ∃ tk1 : Int32, ∃ st1 : Int32, ∃ fz1 : Int32, ∃ ff1 : Nat → Int32, ∃ sz1 : Int32, ∃ sf1 : Nat → Int32, V' (kb + 2) = some (.inr (7, [.int (fk1), .int (fp1), .ref (kb), .ref (qb), .int (nx1), .int (tk1), .int (st1), .ref (kb + 3)])) ∧ V' (it + 1) = some (.inr (9, [.ref (it + 1 + 1), .int (fz1)])) ∧ V' (it + 2) = some (.inl (cs 0, 8, .inl (ff1))) ∧ V' (it + 3) = some (.inr (9, [.ref (it + 3 + 1), .int (sz1)])) ∧ V' (it + 4) = some (.inl (cs 0, 8, .inl (sf1))) ∧ (hx_D (r.toInt = 0) (hx_F w (sp_chg w j).1 (sp_chg w j).2 fk1 fp1) ((sp_chg w j).1 = 0 ∧ hx_O w (sp_chg w j).2 fk fp fk1 fp1 st1 nx1 tk1 ∧ fz1.toInt = sp_sz w j ∧ (∀ k : Nat, (k : Int) < sp_sz w j → (ff1 k).toInt = w.1 (sp_s w j + 1 + k)) ∧ sz1.toInt = sp_sz w (j + 2) ∧ (∀ k : Nat, (k : Int) < sp_sz w (j + 2) → (sf1 k).toInt = w.1 (sp_s w (j + 2) + 1 + k)))) ∧ (r.toInt = 0 ∨ r.toInt = 1) ∧ ((0 ≤ fz1.toInt ∧ fz1.toInt ≤ 8) ∧ (0 ≤ sz1.toInt ∧ sz1.toInt ≤ 8))))) 0 0 := by
  refine hp_walk (R0 := RX7) (by decide) rfl ?_ (Nat.le_of_ble_eq_true rfl)
  intro p e s m below meth c ls hx hb hr hts hown hlocks hin hml hZ hl
  have hP : hq_P cs G (fun _ => true) V V := hq_P.rf hI
  have hl : lv_has ls 2 [(0, .ref (kb + 2)), (1, .ref (it))] := hl
  have hb_fk := hq_rng fk
  have hb_fp := hq_rng fp
  have hb_nx := hq_rng nx
  have hb_tk := hq_rng tk
  have hb_st := hq_rng st
  have hb_lk := hq_rng lk
  have hb_lo := hq_rng lo
  have hb_lt := hq_rng lt
  have hb_lp := hq_rng lp
  have hb_lh := hq_rng lh
  have hb_lht := hq_rng lht
  have hb_lpa := hq_rng lpa
  have hb_lla := hq_rng lla
  have hb_fz := hq_rng fz
  have hb_sz := hq_rng sz
  have hf_3 := hq_rgB hI hy5 hc3
  have hf_5 := hq_rgB hI hy7 hc5
  obtain ⟨b1, b2, b3, b4⟩ := id hA
  have hz9 := hx_TP.size hp0
  refine lv_aload_n hx hb dX7_takeChange_0 rfl (lv_at hl 0 rfl) ?_
  refine hp_calli (hp_runV (As := []) (rest := []) hx hb hml hown hts (x_isNotEmpty l D cs B G V n hP.1 (kb) (qb) (w) (j) (fk) (fp) (nx) (tk) (st) hy2 hc0  hA hz9) hZ hc0 cv_X7_151 rfl rfl ⟨Nat.le_of_ble_eq_true rfl, Nat.le_of_ble_eq_true rfl⟩ rfl hl.1 rfl (Nat.le_of_ble_eq_true rfl) dX7_takeChange_1 ⟨(Nat.le_of_ble_eq_true rfl), (Nat.le_of_ble_eq_true rfl)⟩) hZ (fun r8 V5 n6 _ _ hw7 hZ => ?_)
  obtain ⟨rfl, hq9, fr10, z11, z12, ho13, hp14, hp15⟩ := hw7
  have b16 := hq_rng z11
  have b17 := hq_rng z12
  have hP := hP.trans hq9 (fun _ h => Bool.noConfusion h)
  have b18 := hq_rng r8
  refine lv_if_eq (tgt := 42) hx hb dX7_takeChange_4 (by decide) (fun c19 => ?_) (fun c19 => ?_)
  · have c19 : (r8).toInt = (0 : Int) := hq_eqi.mp c19
    have hF20 := hx_D.pos hp14 (by omega)
    have b21 := hF20.1
    have b22 := hF20.2.1
    refine lv_iconst (v := 0) hx hb dX7_takeChange_42 (by decide) ?_
    have hl23 : (0 : Int32).toInt = 0 := by decide
    have fx24 : V5 (it + 1) = some (.inr (9, [.ref (it + 1 + 1), .int (fz)])) := (fr10 (it + 1) (hq_tne hy4 hy2 (by simp))).trans (hc2)
    have fx25 : V5 (it + 2) = some (.inl (cs 0, 8, .inl (ff))) := (fr10 (it + 2) (hq_tne hy5 hy2 (by simp))).trans (hc3)
    have fx26 : V5 (it + 3) = some (.inr (9, [.ref (it + 3 + 1), .int (sz)])) := (fr10 (it + 3) (hq_tne hy6 hy2 (by simp))).trans (hc4)
    have fx27 : V5 (it + 4) = some (.inl (cs 0, 8, .inl (sf))) := (fr10 (it + 4) (hq_tne hy7 hy2 (by simp))).trans (hc5)
    exact hp_zret hx hb hr rfl hlocks hZ ⟨rfl, hP, (fun x8 hne0 hne1 hne2 hne3 hne4 => fr10 x8 hne0), z11, z12, nx, tk, st, fz, ff, sz, sf, ho13, fx24, fx25, fx26, fx27, hx_D.l (by omega) (by unfold sp_chg; (repeat (first | (rw [if_pos]; rotate_left; omega) | (rw [if_neg]; rotate_left; omega))); (try dsimp only); first | exact hF20 | exact ⟨by omega, by omega, by omega⟩), by omega, by omega⟩ dX7_takeChange_43
  · have c19 : ¬ (r8).toInt = (0 : Int) := fun h9 => c19 (hq_eqi.mpr h9)
    obtain ⟨b28, ⟨b29, b30⟩⟩ := hx_D.neg hp14 (by omega)
    refine lv_aload_n hx hb dX7_takeChange_7 rfl (lv_at hl 0 rfl) ?_
    refine lv_aload_n hx hb dX7_takeChange_8 rfl (lv_at hl 1 rfl) ?_
    have fx32 : V5 (it) = some (.inr (5, [.int (lk), .int (lo), .int (lt), .int (lp), .int (lh), .int (lht), .int (lpa), .int (lla), .ref (it + 1), .ref (it + 3)])) := (fr10 (it) (hq_tne hy3 hy2 (by simp))).trans (hc1)
    refine hp_get (v := .ref (it + 1)) hx hb hts hown hZ fx32 fl_X7_119 rfl dX7_takeChange_9 ?_
    have fx33 : V5 (it + 1) = some (.inr (9, [.ref (it + 1 + 1), .int (fz)])) := (fr10 (it + 1) (hq_tne hy4 hy2 (by simp))).trans (hc2)
    have fx34 : V5 (it + 2) = some (.inl (cs 0, 8, .inl (ff))) := (fr10 (it + 2) (hq_tne hy5 hy2 (by simp))).trans (hc3)
    have pk35 := hp0.keep (fr10 (kb) (hq_tne hy0 hy2 (by simp))) (fr10 (kb + 1) (hq_tne hy1 hy2 (by simp)))
    refine hp_calli (hp_runV (As := [.ref (it + 1)]) (rest := []) hx hb hml hown hts (x_takeLetters l D cs B G V5 n hP.1 (kb) (qb) (w) (j) (it + 1) (z11) (z12) (nx) (tk) (st) (fz) (ff) hy0 hy1 hy2 hy4 hy5 ho13 fx33 fx34 pk35 hA (by omega) (by omega)) hZ ho13 cv_X7_122 rfl rfl ⟨Nat.le_of_ble_eq_true rfl, Nat.le_of_ble_eq_true rfl⟩ rfl hl.1 rfl (Nat.le_of_ble_eq_true rfl) dX7_takeChange_12 ⟨(Nat.le_of_ble_eq_true rfl), (Nat.le_of_ble_eq_true rfl)⟩) hZ (fun r39 V36 n37 _ _ hw38 hZ => ?_)
    obtain ⟨rfl, hq40, fr41, z42, z43, z44, z45, z46, z47, u48, ho49, ho50, ho51, hp52, hp53, hp54⟩ := hw38
    have b55 := hq_rng z42
    have b56 := hq_rng z43
    have b57 := hq_rng z44
    have b58 := hq_rng z45
    have b59 := hq_rng z46
    have b60 := hq_rng z47
    have hP := hP.trans hq40 (fun _ h => Bool.noConfusion h)
    have hf61 := hq_rgB hP.1 hy5 ho51
    have b62 := hq_rng r39
    refine lv_if_eq (tgt := 42) hx hb dX7_takeChange_15 (by decide) (fun c63 => ?_) (fun c63 => ?_)
    · have c63 : (r39).toInt = (0 : Int) := hq_eqi.mp c63
      have hF64 := hx_D.pos hp52 (by omega)
      have b65 := hF64.1
      have b66 := hF64.2.1
      refine lv_iconst (v := 0) hx hb dX7_takeChange_42 (by decide) ?_
      have hl67 : (0 : Int32).toInt = 0 := by decide
      have fx68 : V36 (it + 3) = some (.inr (9, [.ref (it + 3 + 1), .int (sz)])) := (fr41 (it + 3) (hq_tne hy6 hy2 (by simp)) (hq_ne it 3 1 (by decide)) (hq_tne hy6 hy5 (by simp))).trans ((fr10 (it + 3) (hq_tne hy6 hy2 (by simp))).trans (hc4))
      have fx69 : V36 (it + 4) = some (.inl (cs 0, 8, .inl (sf))) := (fr41 (it + 4) (hq_tne hy7 hy2 (by simp)) (hq_tne hy7 hy4 (by simp)) (hq_ne it 4 2 (by decide))).trans ((fr10 (it + 4) (hq_tne hy7 hy2 (by simp))).trans (hc5))
      exact hp_zret hx hb hr rfl hlocks hZ ⟨rfl, hP, (fun x8 hne0 hne1 hne2 hne3 hne4 => (fr41 x8 hne0 hne1 hne2).trans (fr10 x8 hne0)), z42, z43, z44, z45, z46, z47, u48, sz, sf, ho49, ho50, ho51, fx68, fx69, hx_D.l (by omega) (by unfold sp_chg; (repeat (first | (rw [if_pos]; rotate_left; omega) | (rw [if_neg]; rotate_left; omega))); (try dsimp only); first | exact hF64 | exact ⟨by omega, by omega, by omega⟩), by omega, by omega⟩ dX7_takeChange_43
    · have c63 : ¬ (r39).toInt = (0 : Int) := fun h9 => c63 (hq_eqi.mpr h9)
      obtain ⟨b70, ⟨b71, b72, hA73⟩, b74, b75⟩ := hx_D.neg hp52 (by omega)
      obtain ⟨b76, b77, b78, b79⟩ := id hA73
      refine lv_aload_n hx hb dX7_takeChange_18 rfl (lv_at hl 0 rfl) ?_
      refine lv_bipush (v := 9) hx hb dX7_takeChange_19 (by decide) ?_
      have hl80 : (9 : Int32).toInt = 9 := by decide
      have pk81 := pk35.keep (fr41 (kb) (hq_tne hy0 hy2 (by simp)) (hq_tne hy0 hy4 (by simp)) (hq_tne hy0 hy5 (by simp))) (fr41 (kb + 1) (hq_tne hy1 hy2 (by simp)) (hq_tne hy1 hy4 (by simp)) (hq_tne hy1 hy5 (by simp)))
      refine hp_calli (hp_runV (As := [.int (9)]) (rest := []) hx hb hml hown hts (x_take l D cs B G V36 n hP.1 (kb) (qb) (w) ((sp_let w j).2) (9) (9) (z42) (z43) (z44) (z45) (z46) hy0 hy1 hy2 ho49 pk81 hA73 (by decide) (by decide)) hZ ho49 cv_X7_58 rfl rfl ⟨Nat.le_of_ble_eq_true rfl, Nat.le_of_ble_eq_true rfl⟩ rfl hl.1 rfl (Nat.le_of_ble_eq_true rfl) dX7_takeChange_21 ⟨(Nat.le_of_ble_eq_true rfl), (Nat.le_of_ble_eq_true rfl)⟩) hZ (fun r85 V82 n83 _ _ hw84 hZ => ?_)
      obtain ⟨rfl, hq86, fr87, z88, z89, z90, z91, z92, ho93, hp94, hp95⟩ := hw84
      have b96 := hq_rng z88
      have b97 := hq_rng z89
      have b98 := hq_rng z90
      have b99 := hq_rng z91
      have b100 := hq_rng z92
      have hP := hP.trans hq86 (fun _ h => Bool.noConfusion h)
      have b101 := hq_rng r85
      refine lv_if_eq (tgt := 42) hx hb dX7_takeChange_24 (by decide) (fun c102 => ?_) (fun c102 => ?_)
      · have c102 : (r85).toInt = (0 : Int) := hq_eqi.mp c102
        have hF103 := hx_D.pos hp94 (by omega)
        have b104 := hF103.1
        have b105 := hF103.2.1
        refine lv_iconst (v := 0) hx hb dX7_takeChange_42 (by decide) ?_
        have hl106 : (0 : Int32).toInt = 0 := by decide
        have fx107 : V82 (it + 1) = some (.inr (9, [.ref (it + 2), .int (z47)])) := (fr87 (it + 1) (hq_tne hy4 hy2 (by simp))).trans (ho50)
        have fx108 : V82 (it + 2) = some (.inl (cs 0, 8, .inl (u48))) := (fr87 (it + 2) (hq_tne hy5 hy2 (by simp))).trans (ho51)
        have fx109 : V82 (it + 3) = some (.inr (9, [.ref (it + 3 + 1), .int (sz)])) := (fr87 (it + 3) (hq_tne hy6 hy2 (by simp))).trans ((fr41 (it + 3) (hq_tne hy6 hy2 (by simp)) (hq_ne it 3 1 (by decide)) (hq_tne hy6 hy5 (by simp))).trans ((fr10 (it + 3) (hq_tne hy6 hy2 (by simp))).trans (hc4)))
        have fx110 : V82 (it + 4) = some (.inl (cs 0, 8, .inl (sf))) := (fr87 (it + 4) (hq_tne hy7 hy2 (by simp))).trans ((fr41 (it + 4) (hq_tne hy7 hy2 (by simp)) (hq_tne hy7 hy4 (by simp)) (hq_ne it 4 2 (by decide))).trans ((fr10 (it + 4) (hq_tne hy7 hy2 (by simp))).trans (hc5)))
        exact hp_zret hx hb hr rfl hlocks hZ ⟨rfl, hP, (fun x8 hne0 hne1 hne2 hne3 hne4 => (fr87 x8 hne0).trans ((fr41 x8 hne0 hne1 hne2).trans (fr10 x8 hne0))), z88, z89, z90, z91, z92, z47, u48, sz, sf, ho93, fx107, fx108, fx109, fx110, hx_D.l (by omega) (by unfold sp_chg; (repeat (first | (rw [if_pos]; rotate_left; omega) | (rw [if_neg]; rotate_left; omega))); (try dsimp only); first | exact hF103 | exact ⟨by omega, by omega, by omega⟩), by omega, by omega⟩ dX7_takeChange_43
      · have c102 : ¬ (r85).toInt = (0 : Int) := fun h9 => c102 (hq_eqi.mpr h9)
        obtain ⟨b111, ⟨b112, b113, hA114⟩⟩ := hx_D.neg hp94 (by omega)
        obtain ⟨b115, b116, b117, b118⟩ := id hA114
        refine lv_aload_n hx hb dX7_takeChange_27 rfl (lv_at hl 0 rfl) ?_
        refine lv_aload_n hx hb dX7_takeChange_28 rfl (lv_at hl 1 rfl) ?_
        have fx119 : V82 (it) = some (.inr (5, [.int (lk), .int (lo), .int (lt), .int (lp), .int (lh), .int (lht), .int (lpa), .int (lla), .ref (it + 1), .ref (it + 3)])) := (fr87 (it) (hq_tne hy3 hy2 (by simp))).trans ((fr41 (it) (hq_tne hy3 hy2 (by simp)) (hq_tne hy3 hy4 (by simp)) (hq_tne hy3 hy5 (by simp))).trans (fx32))
        refine hp_get (v := .ref (it + 3)) hx hb hts hown hZ fx119 fl_X7_154 rfl dX7_takeChange_29 ?_
        have fx120 : V82 (it + 3) = some (.inr (9, [.ref (it + 3 + 1), .int (sz)])) := (fr87 (it + 3) (hq_tne hy6 hy2 (by simp))).trans ((fr41 (it + 3) (hq_tne hy6 hy2 (by simp)) (hq_ne it 3 1 (by decide)) (hq_tne hy6 hy5 (by simp))).trans ((fr10 (it + 3) (hq_tne hy6 hy2 (by simp))).trans (hc4)))
        have fx121 : V82 (it + 4) = some (.inl (cs 0, 8, .inl (sf))) := (fr87 (it + 4) (hq_tne hy7 hy2 (by simp))).trans ((fr41 (it + 4) (hq_tne hy7 hy2 (by simp)) (hq_tne hy7 hy4 (by simp)) (hq_ne it 4 2 (by decide))).trans ((fr10 (it + 4) (hq_tne hy7 hy2 (by simp))).trans (hc5)))
        have pk122 := pk81.keep (fr87 (kb) (hq_tne hy0 hy2 (by simp))) (fr87 (kb + 1) (hq_tne hy1 hy2 (by simp)))
        refine hp_calli (hp_runV (As := [.ref (it + 3)]) (rest := []) hx hb hml hown hts (x_takeLetters l D cs B G V82 n hP.1 (kb) (qb) (w) ((sp_take w 9 ((sp_let w j).2)).2) (it + 3) (z88) (z89) (z90) (z91) (z92) (sz) (sf) hy0 hy1 hy2 hy6 hy7 ho93 fx120 fx121 pk122 hA114 (by omega) (by omega)) hZ ho93 cv_X7_122 rfl rfl ⟨Nat.le_of_ble_eq_true rfl, Nat.le_of_ble_eq_true rfl⟩ rfl hl.1 rfl (Nat.le_of_ble_eq_true rfl) dX7_takeChange_32 ⟨(Nat.le_of_ble_eq_true rfl), (Nat.le_of_ble_eq_true rfl)⟩) hZ (fun r126 V123 n124 _ _ hw125 hZ => ?_)
        obtain ⟨rfl, hq127, fr128, z129, z130, z131, z132, z133, z134, u135, ho136, ho137, ho138, hp139, hp140, hp141⟩ := hw125
        have b142 := hq_rng z129
        have b143 := hq_rng z130
        have b144 := hq_rng z131
        have b145 := hq_rng z132
        have b146 := hq_rng z133
        have b147 := hq_rng z134
        have hP := hP.trans hq127 (fun _ h => Bool.noConfusion h)
        have hf148 := hq_rgB hP.1 hy7 ho138
        have b149 := hq_rng r126
        refine lv_if_eq (tgt := 42) hx hb dX7_takeChange_35 (by decide) (fun c150 => ?_) (fun c150 => ?_)
        · have c150 : (r126).toInt = (0 : Int) := hq_eqi.mp c150
          have hF151 := hx_D.pos hp139 (by omega)
          have b152 := hF151.1
          have b153 := hF151.2.1
          refine lv_iconst (v := 0) hx hb dX7_takeChange_42 (by decide) ?_
          have hl154 : (0 : Int32).toInt = 0 := by decide
          have fx155 : V123 (it + 1) = some (.inr (9, [.ref (it + 2), .int (z47)])) := (fr128 (it + 1) (hq_tne hy4 hy2 (by simp)) (hq_ne it 1 3 (by decide)) (hq_tne hy4 hy7 (by simp))).trans ((fr87 (it + 1) (hq_tne hy4 hy2 (by simp))).trans (ho50))
          have fx156 : V123 (it + 2) = some (.inl (cs 0, 8, .inl (u48))) := (fr128 (it + 2) (hq_tne hy5 hy2 (by simp)) (hq_tne hy5 hy6 (by simp)) (hq_ne it 2 4 (by decide))).trans ((fr87 (it + 2) (hq_tne hy5 hy2 (by simp))).trans (ho51))
          exact hp_zret hx hb hr rfl hlocks hZ ⟨rfl, hP, (fun x8 hne0 hne1 hne2 hne3 hne4 => (fr128 x8 hne0 hne3 hne4).trans ((fr87 x8 hne0).trans ((fr41 x8 hne0 hne1 hne2).trans (fr10 x8 hne0)))), z129, z130, z131, z132, z133, z47, u48, z134, u135, ho136, fx155, fx156, ho137, ho138, hx_D.l (by omega) (by unfold sp_chg; (repeat (first | (rw [if_pos]; rotate_left; omega) | (rw [if_neg]; rotate_left; omega))); (try dsimp only); first | exact hF151 | exact ⟨by omega, by omega, by omega⟩), by omega, by omega⟩ dX7_takeChange_43
        · have c150 : ¬ (r126).toInt = (0 : Int) := fun h9 => c150 (hq_eqi.mpr h9)
          obtain ⟨b157, ⟨b158, b159, hA160⟩, b161, b162⟩ := hx_D.neg hp139 (by omega)
          obtain ⟨b163, b164, b165, b166⟩ := id hA160
          refine lv_iconst (v := 1) hx hb dX7_takeChange_38 (by decide) ?_
          refine lv_goto (tgt := 43) hx hb dX7_takeChange_39 (by decide) ?_
          have hl167 : (1 : Int32).toInt = 1 := by decide
          have hj1 := (sp_let_j (w := w) (j := j) (by omega)).1
          have hj2 : (sp_take w 9 (sp_let w j).2).2 = j + 2 := by have h9 := (sp_take_j (w := w) (d := 9) (j := (sp_let w j).2) (by omega)).1; omega
          rw [hj2] at b162
          have hs9 : sp_sz w (sp_take w 9 (sp_let w j).2).2 = sp_sz w (j + 2) := by rw [hj2]
          have fx168 : V123 (it + 1) = some (.inr (9, [.ref (it + 2), .int (z47)])) := (fr128 (it + 1) (hq_tne hy4 hy2 (by simp)) (hq_ne it 1 3 (by decide)) (hq_tne hy4 hy7 (by simp))).trans ((fr87 (it + 1) (hq_tne hy4 hy2 (by simp))).trans (ho50))
          have fx169 : V123 (it + 2) = some (.inl (cs 0, 8, .inl (u48))) := (fr128 (it + 2) (hq_tne hy5 hy2 (by simp)) (hq_tne hy5 hy6 (by simp)) (hq_ne it 2 4 (by decide))).trans ((fr87 (it + 2) (hq_tne hy5 hy2 (by simp))).trans (ho51))
          exact hp_zret hx hb hr rfl hlocks hZ ⟨rfl, hP, (fun x8 hne0 hne1 hne2 hne3 hne4 => (fr128 x8 hne0 hne3 hne4).trans ((fr87 x8 hne0).trans ((fr41 x8 hne0 hne1 hne2).trans (fr10 x8 hne0)))), z129, z130, z131, z132, z133, z47, u48, z134, u135, ho136, fx168, fx169, ho137, ho138, hx_D.r (by omega) (by unfold sp_chg; (repeat (first | (rw [if_pos]; rotate_left; omega) | (rw [if_neg]; rotate_left; omega))); (try dsimp only); exact ⟨by first | rfl | omega, ⟨by omega, by omega, hA160⟩, by omega, b75, by omega, b162⟩), by omega, by omega⟩ dX7_takeChange_43

set_option maxHeartbeats 4000000 in
set_option maxRecDepth 100000 in
theorem x_exceptsLike (l : Launch) (D : va_G) (cs : Nat → ClassId) (B : Nat) (G : hq_G) (V : hp_V) (n : Nat) (hI : hq_I cs G V) (qb : Nat) (w : sp_W) (it : Nat) (lz : List sp_L) (lk : Int32) (lo : Int32) (lt : Int32) (lp : Int32) (lh : Int32) (lht : Int32) (lpa : Int32) (lla : Int32) (bc : Int32) (bv : Int32) (bl : Int32) (hc0 : V (qb) = some (.inr (0, [.ref (qb + 1), .int (bc), .ref (qb + 14), .ref (qb + 75), .int (bv), .ref (qb + 76), .int (bl)]))) (hc1 : V (it) = some (.inr (5, [.int (lk), .int (lo), .int (lt), .int (lp), .int (lh), .int (lht), .int (lpa), .int (lla), .ref (it + 1), .ref (it + 3)]))) (hp0 : hx_BS cs V qb) (hp1 : hx_LL cs V (qb + 77) w lz) (hbl : bl.toInt = (lz.length : Int)) : hp_M l yX0_exceptsLike cX0_exceptsLike 5 (some .int) ({ frames := 1, cells := 0, slots := 0, locals := 21 }) D cs B V n [.ref (qb), .ref (it)] (hp_QI D cs B (fun r V' n' => n = n' ∧ V = V' ∧ (r.toInt = sp_like lo.toInt lt.toInt lp.toInt lz 0))) 0 0 := by
  refine hp_walk (R0 := RX0) (by decide) rfl ?_ (Nat.le_of_ble_eq_true rfl)
  intro p e s m below meth c ls hx hb hr hts hown hlocks hin hml hZ hl
  have hP : hq_I cs G V := hI
  have hl : lv_has ls 5 [(0, .ref (qb)), (1, .ref (it))] := hl
  have hb_lk := hq_rng lk
  have hb_lo := hq_rng lo
  have hb_lt := hq_rng lt
  have hb_lp := hq_rng lp
  have hb_lh := hq_rng lh
  have hb_lht := hq_rng lht
  have hb_lpa := hq_rng lpa
  have hb_lla := hq_rng lla
  have hb_bc := hq_rng bc
  have hb_bv := hq_rng bv
  have hb_bl := hq_rng bl
  obtain ⟨⟨g1, hg1, hr1⟩, ⟨g2, hg2, hr2⟩, ⟨g3, hg3, hr3⟩⟩ := id hp0
  have hlenl := hp1.1
  refine lv_iconst (v := 0) hx hb dX0_exceptsLike_0 (by decide) ?_
  refine lv_istore_n (lv' := [(2, .int (0)), (0, .ref (qb)), (1, .ref (it))]) hx hb dX0_exceptsLike_1 rfl hl (by decide) rfl (fun ls hl => ?_)
  refine lv_iconst (v := 0) hx hb dX0_exceptsLike_2 (by decide) ?_
  refine lv_istore_n (lv' := [(3, .int (0)), (2, .int (0)), (0, .ref (qb)), (1, .ref (it))]) hx hb dX0_exceptsLike_3 rfl hl (by decide) rfl (fun ls hl => ?_)
  have hl1 : (0 : Int32).toInt = 0 := by decide
  have hl2 : (0 : Int32).toInt = 0 := by decide
  suffices lp4 : ∀ (k9 : Nat) (H9 : Heap) (locs9 : List Loc) (ls : Array Slot) (no : Int32) (i : Int32), (200 - i.toInt).toNat = k9 → hp_Z D cs B s V H9 n locs9 → hq_I cs G V → 0 ≤ i.toInt → i.toInt ≤ lz.length → 0 ≤ no.toInt ∧ no.toInt ≤ i.toInt → (sp_like lo.toInt lt.toInt lp.toInt (lz.drop i.toNatClampNeg) no.toInt = sp_like lo.toInt lt.toInt lp.toInt lz 0) → lv_has ls 5 [(3, .int (i)), (2, .int (no)), (0, .ref (qb)), (1, .ref (it))] → W p l e ({ frames := 1, cells := 0, slots := 0, locals := 21 }) s m ([.ref (qb), .ref (it)] : List Value).toArray below meth c H9 locs9 0 0 (MQ below (hp_QI D cs B (fun r V' n' => n = n' ∧ V = V' ∧ (r.toInt = sp_like lo.toInt lt.toInt lp.toInt lz 0))) ([.ref (qb), .ref (it)] : List Value).toArray s 0 0 (hp_F B)) (F0 m 4 ls []) from lp4 _ _ _ ls (0) (0) rfl hZ hP (by omega) (by omega) (by omega) (rfl) (lv_sub hl [0, 1, 2, 3] rfl)
  intro k9
  induction k9 using Nat.strongRecOn with
  | _ k9 ih4 =>
    intro H9 locs9 ls no i   hk4 hZ hP    hv3 hv4 hv5 hlk hl
    have hb_no := hq_rng no
    have hb_i := hq_rng i
    refine lv_iload_n hx hb dX0_exceptsLike_4 rfl (lv_at hl 0 rfl) ?_
    refine lv_aload_n hx hb dX0_exceptsLike_5 rfl (lv_at hl 2 rfl) ?_
    refine hp_get (v := .int (bl)) hx hb hts hown hZ hc0 fl_X0_41 rfl dX0_exceptsLike_6 ?_
    refine lv_icmp_ge (tgt := 74) hx hb dX0_exceptsLike_9 (by decide) (fun c6 => ?_) (fun c6 => ?_)
    · have c6 : (bl).toInt ≤ (i).toInt := hq_lei.mp c6
      refine lv_iload_n hx hb dX0_exceptsLike_74 rfl (lv_at hl 1 rfl) ?_
      exact hp_iret hx hb hr hlocks hZ ⟨rfl, rfl, by rw [← hlk, sp_like_out (by have h8 := (hq_nn (z := i) (by omega)).1; omega)]⟩ dX0_exceptsLike_75
    · have c6 : ¬ (bl).toInt ≤ (i).toInt := fun h9 => c6 (hq_lei.mpr h9)
      refine lv_aload_n hx hb dX0_exceptsLike_12 rfl (lv_at hl 2 rfl) ?_
      refine hp_get (v := .ref (qb + 76)) hx hb hts hown hZ hc0 fl_X0_29 rfl dX0_exceptsLike_13 ?_
      refine lv_iload_n hx hb dX0_exceptsLike_16 rfl (lv_at hl 0 rfl) ?_
      obtain ⟨la9, hla⟩ : ∃ ta, ta = qb + 77 + 5 * (i).toNatClampNeg := ⟨_, rfl⟩
      have hii : (i.toNatClampNeg : Int) = i.toInt := (hq_nn (by omega)).1.symm
      have hla1 : g3 (i).toNatClampNeg = some la9 := by rw [hla]; exact hr3 _ (by omega)
      obtain ⟨x9, hx9⟩ : ∃ t, lz[i.toNatClampNeg]? = some t := ⟨_, List.getElem?_eq_getElem (by omega)⟩
      obtain ⟨ak, ao, at9, ap, ah, aht, apa, ala, ha1, ha2, ha3, ha4, ha5, -⟩ := (show hx_LN cs V la9 w x9 by rw [hla]; exact hp1.2 _ _ hx9)
      refine hp_aald (v := .ref (la9)) hx hb hZ 6 hg3 rfl (hq_in (by omega) (by omega)) (by rw [hla1]; rfl) dX0_exceptsLike_17 ?_
      refine lv_astore (lv' := [(4, .ref (la9)), (3, .int (i)), (2, .int (no)), (0, .ref (qb)), (1, .ref (it))]) hx hb dX0_exceptsLike_18 hl (by decide) rfl (fun ls hl => ?_)
      refine lv_aload hx hb dX0_exceptsLike_20 (lv_at hl 0 rfl) ?_
      refine hp_get (v := .int (ak)) hx hb hts hown hZ ha1 fl_X0_61 rfl dX0_exceptsLike_22 ?_
      refine lv_iconst (v := 4) hx hb dX0_exceptsLike_25 (by decide) ?_
      refine lv_icmp_ne (tgt := 68) hx hb dX0_exceptsLike_26 (by decide) (fun c7 => ?_) (fun c7 => ?_)
      · have c7 : ¬ (ak).toInt = (4 : Int) := fun h9 => c7 (hq_eqi.mpr h9)
        obtain ⟨y8, ey9⟩ : ∃ y : Int32, y = i + (1) := ⟨_, rfl⟩
        obtain ⟨k10, hk11, b12, b13⟩ := hq_add (i) (1)
        rw [← ey9] at hk11 b12 b13
        have hk11 : (y8).toInt = (i).toInt + (1) + k10 * 4294967296 := hk11
        obtain rfl : k10 = 0 := by omega
        refine lv_iinc (v := y8) (lv' := [(3, .int (y8)), (4, .ref (la9)), (2, .int (no)), (0, .ref (qb)), (1, .ref (it))]) hx hb dX0_exceptsLike_68 hl (k := 1) rfl (by rw [ey9]; rfl) (by decide) rfl (fun ls hl => ?_)
        refine lv_goto (tgt := 4) hx hb dX0_exceptsLike_71 (by decide) ?_
        exact ih4 _ (by omega) _ _ ls (no) (y8) rfl hZ hP (by omega) (by omega) (by omega) (by rw [← hlk, sp_like_go hx9, if_neg (by omega), show (y8).toNatClampNeg = i.toNatClampNeg + 1 from (by have h8 := (hq_nn (z := y8) (by omega)).1; omega)]) (lv_sub hl [0, 2, 3, 4] rfl)
      · have c7 : (ak).toInt = (4 : Int) := hq_eqi.mp c7
        refine lv_aload hx hb dX0_exceptsLike_29 (lv_at hl 0 rfl) ?_
        refine hp_get (v := .int (ao)) hx hb hts hown hZ ha1 fl_X0_58 rfl dX0_exceptsLike_31 ?_
        refine lv_aload_n hx hb dX0_exceptsLike_34 rfl (lv_at hl 4 rfl) ?_
        refine hp_get (v := .int (lo)) hx hb hts hown hZ hc1 fl_X0_58 rfl dX0_exceptsLike_35 ?_
        refine lv_icmp_ne (tgt := 68) hx hb dX0_exceptsLike_38 (by decide) (fun c14 => ?_) (fun c14 => ?_)
        · have c14 : ¬ (ao).toInt = (lo).toInt := fun h9 => c14 (hq_eqi.mpr h9)
          obtain ⟨y15, ey16⟩ : ∃ y : Int32, y = i + (1) := ⟨_, rfl⟩
          obtain ⟨k17, hk18, b19, b20⟩ := hq_add (i) (1)
          rw [← ey16] at hk18 b19 b20
          have hk18 : (y15).toInt = (i).toInt + (1) + k17 * 4294967296 := hk18
          obtain rfl : k17 = 0 := by omega
          refine lv_iinc (v := y15) (lv' := [(3, .int (y15)), (4, .ref (la9)), (2, .int (no)), (0, .ref (qb)), (1, .ref (it))]) hx hb dX0_exceptsLike_68 hl (k := 1) rfl (by rw [ey16]; rfl) (by decide) rfl (fun ls hl => ?_)
          refine lv_goto (tgt := 4) hx hb dX0_exceptsLike_71 (by decide) ?_
          exact ih4 _ (by omega) _ _ ls (no) (y15) rfl hZ hP (by omega) (by omega) (by omega) (by rw [← hlk, sp_like_go hx9, if_neg (by omega), show (y15).toNatClampNeg = i.toNatClampNeg + 1 from (by have h8 := (hq_nn (z := y15) (by omega)).1; omega)]) (lv_sub hl [0, 2, 3, 4] rfl)
        · have c14 : (ao).toInt = (lo).toInt := hq_eqi.mp c14
          refine lv_aload hx hb dX0_exceptsLike_41 (lv_at hl 0 rfl) ?_
          refine hp_get (v := .int (at9)) hx hb hts hown hZ ha1 fl_X0_48 rfl dX0_exceptsLike_43 ?_
          refine lv_aload_n hx hb dX0_exceptsLike_46 rfl (lv_at hl 4 rfl) ?_
          refine hp_get (v := .int (lt)) hx hb hts hown hZ hc1 fl_X0_48 rfl dX0_exceptsLike_47 ?_
          refine lv_icmp_ne (tgt := 68) hx hb dX0_exceptsLike_50 (by decide) (fun c21 => ?_) (fun c21 => ?_)
          · have c21 : ¬ (at9).toInt = (lt).toInt := fun h9 => c21 (hq_eqi.mpr h9)
            obtain ⟨y22, ey23⟩ : ∃ y : Int32, y = i + (1) := ⟨_, rfl⟩
            obtain ⟨k24, hk25, b26, b27⟩ := hq_add (i) (1)
            rw [← ey23] at hk25 b26 b27
            have hk25 : (y22).toInt = (i).toInt + (1) + k24 * 4294967296 := hk25
            obtain rfl : k24 = 0 := by omega
            refine lv_iinc (v := y22) (lv' := [(3, .int (y22)), (4, .ref (la9)), (2, .int (no)), (0, .ref (qb)), (1, .ref (it))]) hx hb dX0_exceptsLike_68 hl (k := 1) rfl (by rw [ey23]; rfl) (by decide) rfl (fun ls hl => ?_)
            refine lv_goto (tgt := 4) hx hb dX0_exceptsLike_71 (by decide) ?_
            exact ih4 _ (by omega) _ _ ls (no) (y22) rfl hZ hP (by omega) (by omega) (by omega) (by rw [← hlk, sp_like_go hx9, if_neg (by omega), show (y22).toNatClampNeg = i.toNatClampNeg + 1 from (by have h8 := (hq_nn (z := y22) (by omega)).1; omega)]) (lv_sub hl [0, 2, 3, 4] rfl)
          · have c21 : (at9).toInt = (lt).toInt := hq_eqi.mp c21
            refine lv_aload hx hb dX0_exceptsLike_53 (lv_at hl 0 rfl) ?_
            refine hp_get (v := .int (ap)) hx hb hts hown hZ ha1 fl_X0_51 rfl dX0_exceptsLike_55 ?_
            refine lv_aload_n hx hb dX0_exceptsLike_58 rfl (lv_at hl 4 rfl) ?_
            refine hp_get (v := .int (lp)) hx hb hts hown hZ hc1 fl_X0_51 rfl dX0_exceptsLike_59 ?_
            refine lv_icmp_ne (tgt := 68) hx hb dX0_exceptsLike_62 (by decide) (fun c28 => ?_) (fun c28 => ?_)
            · have c28 : ¬ (ap).toInt = (lp).toInt := fun h9 => c28 (hq_eqi.mpr h9)
              obtain ⟨y29, ey30⟩ : ∃ y : Int32, y = i + (1) := ⟨_, rfl⟩
              obtain ⟨k31, hk32, b33, b34⟩ := hq_add (i) (1)
              rw [← ey30] at hk32 b33 b34
              have hk32 : (y29).toInt = (i).toInt + (1) + k31 * 4294967296 := hk32
              obtain rfl : k31 = 0 := by omega
              refine lv_iinc (v := y29) (lv' := [(3, .int (y29)), (4, .ref (la9)), (2, .int (no)), (0, .ref (qb)), (1, .ref (it))]) hx hb dX0_exceptsLike_68 hl (k := 1) rfl (by rw [ey30]; rfl) (by decide) rfl (fun ls hl => ?_)
              refine lv_goto (tgt := 4) hx hb dX0_exceptsLike_71 (by decide) ?_
              exact ih4 _ (by omega) _ _ ls (no) (y29) rfl hZ hP (by omega) (by omega) (by omega) (by rw [← hlk, sp_like_go hx9, if_neg (by omega), show (y29).toNatClampNeg = i.toNatClampNeg + 1 from (by have h8 := (hq_nn (z := y29) (by omega)).1; omega)]) (lv_sub hl [0, 2, 3, 4] rfl)
            · have c28 : (ap).toInt = (lp).toInt := hq_eqi.mp c28
              obtain ⟨y35, ey36⟩ : ∃ y : Int32, y = no + (1) := ⟨_, rfl⟩
              obtain ⟨k37, hk38, b39, b40⟩ := hq_add (no) (1)
              rw [← ey36] at hk38 b39 b40
              have hk38 : (y35).toInt = (no).toInt + (1) + k37 * 4294967296 := hk38
              obtain rfl : k37 = 0 := by omega
              refine lv_iinc (v := y35) (lv' := [(2, .int (y35)), (4, .ref (la9)), (3, .int (i)), (0, .ref (qb)), (1, .ref (it))]) hx hb dX0_exceptsLike_65 hl (k := 2) rfl (by rw [ey36]; rfl) (by decide) rfl (fun ls hl => ?_)
              obtain ⟨y41, ey42⟩ : ∃ y : Int32, y = i + (1) := ⟨_, rfl⟩
              obtain ⟨k43, hk44, b45, b46⟩ := hq_add (i) (1)
              rw [← ey42] at hk44 b45 b46
              have hk44 : (y41).toInt = (i).toInt + (1) + k43 * 4294967296 := hk44
              obtain rfl : k43 = 0 := by omega
              refine lv_iinc (v := y41) (lv' := [(3, .int (y41)), (2, .int (y35)), (4, .ref (la9)), (0, .ref (qb)), (1, .ref (it))]) hx hb dX0_exceptsLike_68 hl (k := 2) rfl (by rw [ey42]; rfl) (by decide) rfl (fun ls hl => ?_)
              refine lv_goto (tgt := 4) hx hb dX0_exceptsLike_71 (by decide) ?_
              exact ih4 _ (by omega) _ _ ls (y35) (y41) rfl hZ hP (by omega) (by omega) (by omega) (by rw [← hlk, sp_like_go hx9, if_pos (by omega), show (y41).toNatClampNeg = i.toNatClampNeg + 1 from (by have h8 := (hq_nn (z := y41) (by omega)).1; omega), show (y35).toInt = no.toInt + 1 by omega]) (lv_sub hl [0, 1, 3, 4] rfl)

set_option maxHeartbeats 4000000 in
set_option maxRecDepth 100000 in
theorem x_takeExcepted (l : Launch) (D : va_G) (cs : Nat → ClassId) (B : Nat) (G : hq_G) (V : hp_V) (n : Nat) (hI : hq_I cs G V) (kb : Nat) (qb : Nat) (w : sp_W) (it : Nat) (bb : Nat) (j : Nat) (lz : List sp_L) (fk : Int32) (fp : Int32) (nx : Int32) (tk : Int32) (st : Int32) (lk : Int32) (lo : Int32) (lt : Int32) (lp : Int32) (lh : Int32) (lht : Int32) (lpa : Int32) (lla : Int32) (fz : Int32) (ff : Nat → Int32) (bc : Int32) (bv : Int32) (bl : Int32) (hy0 : G (kb) = some (0, 4000, 0, 0)) (hy1 : G (kb + 1) = some (1, 4000, 0, 0)) (hy2 : G (kb + 2) = some (10, 0, 0, 0)) (hy3 : G (it) = some (5, bb, 0, 0)) (hy4 : G (it + 1) = some (0, 8, 0, 0)) (hy5 : G (it + 2) = some (1, 8, 0, 0)) (hy6 : G (it + 3) = some (0, 8, 0, 0)) (hy7 : G (it + 4) = some (1, 8, 0, 0)) (hc0 : V (kb + 2) = some (.inr (7, [.int (fk), .int (fp), .ref (kb), .ref (qb), .int (nx), .int (tk), .int (st), .ref (kb + 3)]))) (hc1 : V (it) = some (.inr (5, [.int (lk), .int (lo), .int (lt), .int (lp), .int (lh), .int (lht), .int (lpa), .int (lla), .ref (it + 1), .ref (it + 3)]))) (hc2 : V (it + 1) = some (.inr (9, [.ref (it + 1 + 1), .int (fz)]))) (hc3 : V (it + 2) = some (.inl (cs 0, 8, .inl (ff)))) (hc4 : V (qb) = some (.inr (0, [.ref (qb + 1), .int (bc), .ref (qb + 14), .ref (qb + 75), .int (bv), .ref (qb + 76), .int (bl)]))) (hp0 : hx_TP cs V kb w) (hp1 : hx_BS cs V qb) (hp2 : hx_LL cs V (qb + 77) w lz) (hA : hx_A w j st nx tk) (hq : kb + 88 ≤ qb) (hit : qb + 77 ≤ it ∧ it + 5 ≤ qb + 377) (hbl : bl.toInt = (lz.length : Int)) (hfz : 0 ≤ fz.toInt ∧ fz.toInt ≤ 8) : hp_M l yX7_takeExcepted cX7_takeExcepted 2 (some .boolean) ({ frames := 8, cells := 0, slots := 0, locals := 173 }) D cs B V n [.ref (kb + 2), .ref (it)] (hp_QI D cs B (fun r V' n' => n = n' ∧ hq_P cs G (fun _ => true) V V' ∧ (∀ x, x ≠ kb + 2 → x ≠ it + 1 → x ≠ it + 2 → V' x = V x) ∧ (∃ fk1 : Int32, ∃ fp1 : Int32, ∃ nx1 : Int32, ∃ tk1 : Int32, ∃ st1 : Int32, ∃ fz1 : Int32, ∃ ff1 : Nat → Int32, V' (kb + 2) = some (.inr (7, [.int (fk1), .int (fp1), .ref (kb), .ref (qb), .int (nx1), .int (tk1), .int (st1), .ref (kb + 3)])) ∧ V' (it + 1) = some (.inr (9, [.ref (it + 1 + 1), .int (fz1)])) ∧ V' (it + 2) = some (.inl (cs 0, 8, .inl (ff1))) ∧ (hx_D (r.toInt = 0) (hx_F w (sp_exc w (sp_like lo.toInt lt.toInt lp.toInt lz 0) j).1 (sp_exc w (sp_like lo.toInt lt.toInt lp.toInt lz 0) j).2 fk1 fp1) ((sp_exc w (sp_like lo.toInt lt.toInt lp.toInt lz 0) j).1 = 0 ∧ hx_O w (sp_exc w (sp_like lo.toInt lt.toInt lp.toInt lz 0) j).2 fk fp fk1 fp1 st1 nx1 tk1 ∧ fz1.toInt = sp_sz w j ∧ (∀ k : Nat, (k : Int) < sp_sz w j → (ff1 k).toInt = w.1 (sp_s w j + 1 + k)))) ∧ (r.toInt = 0 ∨ r.toInt = 1) ∧ (0 ≤ fz1.toInt ∧ fz1.toInt ≤ 8)))) 0 0 := by
  refine hp_walk (R0 := RX7) (by decide) rfl ?_ (Nat.le_of_ble_eq_true rfl)
  intro p e s m below meth c ls hx hb hr hts hown hlocks hin hml hZ hl
  have hP : hq_P cs G (fun _ => true) V V := hq_P.rf hI
  have hl : lv_has ls 2 [(0, .ref (kb + 2)), (1, .ref (it))] := hl
  have hb_fk := hq_rng fk
  have hb_fp := hq_rng fp
  have hb_nx := hq_rng nx
  have hb_tk := hq_rng tk
  have hb_st := hq_rng st
  have hb_lk := hq_rng lk
  have hb_lo := hq_rng lo
  have hb_lt := hq_rng lt
  have hb_lp := hq_rng lp
  have hb_lh := hq_rng lh
  have hb_lht := hq_rng lht
  have hb_lpa := hq_rng lpa
  have hb_lla := hq_rng lla
  have hb_fz := hq_rng fz
  have hb_bc := hq_rng bc
  have hb_bv := hq_rng bv
  have hb_bl := hq_rng bl
  have hf_3 := hq_rgB hI hy5 hc3
  obtain ⟨b1, b2, b3, b4⟩ := id hA
  have hz9 := hx_TP.size hp0
  have hlenl := hp2.1
  refine lv_aload_n hx hb dX7_takeExcepted_0 rfl (lv_at hl 0 rfl) ?_
  refine hp_get (v := .int (tk)) hx hb hts hown hZ hc0 fl_X7_45 rfl dX7_takeExcepted_1 ?_
  refine lv_bipush (v := 19) hx hb dX7_takeExcepted_4 (by decide) ?_
  refine lv_icmp_ne (tgt := 27) hx hb dX7_takeExcepted_6 (by decide) (fun c5 => ?_) (fun c5 => ?_)
  · have c5 : ¬ (tk).toInt = (19 : Int) := fun h9 => c5 (hq_eqi.mpr h9)
    refine lv_aload_n hx hb dX7_takeExcepted_27 rfl (lv_at hl 0 rfl) ?_
    refine hp_calli (hp_runV (As := []) (rest := []) hx hb hml hown hts (x_isNotEmpty l D cs B G V n hP.1 (kb) (qb) (w) (j) (fk) (fp) (nx) (tk) (st) hy2 hc0  hA hz9) hZ hc0 cv_X7_151 rfl rfl ⟨Nat.le_of_ble_eq_true rfl, Nat.le_of_ble_eq_true rfl⟩ rfl hl.1 rfl (Nat.le_of_ble_eq_true rfl) dX7_takeExcepted_28 ⟨(Nat.le_of_ble_eq_true rfl), (Nat.le_of_ble_eq_true rfl)⟩) hZ (fun r9 V6 n7 _ _ hw8 hZ => ?_)
    obtain ⟨rfl, hq10, fr11, z12, z13, ho14, hp15, hp16⟩ := hw8
    have b17 := hq_rng z12
    have b18 := hq_rng z13
    have hP := hP.trans hq10 (fun _ h => Bool.noConfusion h)
    have b19 := hq_rng r9
    refine lv_if_eq (tgt := 49) hx hb dX7_takeExcepted_31 (by decide) (fun c20 => ?_) (fun c20 => ?_)
    · have c20 : (r9).toInt = (0 : Int) := hq_eqi.mp c20
      have hF21 := hx_D.pos hp15 (by omega)
      have b22 := hF21.1
      have b23 := hF21.2.1
      refine lv_iconst (v := 0) hx hb dX7_takeExcepted_49 (by decide) ?_
      have hl24 : (0 : Int32).toInt = 0 := by decide
      have fx25 : V6 (it + 1) = some (.inr (9, [.ref (it + 1 + 1), .int (fz)])) := (fr11 (it + 1) (hq_tne hy4 hy2 (by simp))).trans (hc2)
      have fx26 : V6 (it + 2) = some (.inl (cs 0, 8, .inl (ff))) := (fr11 (it + 2) (hq_tne hy5 hy2 (by simp))).trans (hc3)
      exact hp_zret hx hb hr rfl hlocks hZ ⟨rfl, hP, (fun x8 hne0 hne1 hne2 => fr11 x8 hne0), z12, z13, nx, tk, st, fz, ff, ho14, fx25, fx26, hx_D.l (by omega) (by unfold sp_exc; (repeat (first | (rw [if_pos]; rotate_left; omega) | (rw [if_neg]; rotate_left; omega))); (try dsimp only); first | exact hF21 | exact ⟨by omega, by omega, by omega⟩), by omega, by omega⟩ dX7_takeExcepted_50
    · have c20 : ¬ (r9).toInt = (0 : Int) := fun h9 => c20 (hq_eqi.mpr h9)
      obtain ⟨b27, ⟨b28, b29⟩⟩ := hx_D.neg hp15 (by omega)
      refine lv_aload_n hx hb dX7_takeExcepted_34 rfl (lv_at hl 0 rfl) ?_
      refine lv_aload_n hx hb dX7_takeExcepted_35 rfl (lv_at hl 1 rfl) ?_
      have fx31 : V6 (it) = some (.inr (5, [.int (lk), .int (lo), .int (lt), .int (lp), .int (lh), .int (lht), .int (lpa), .int (lla), .ref (it + 1), .ref (it + 3)])) := (fr11 (it) (hq_tne hy3 hy2 (by simp))).trans (hc1)
      refine hp_get (v := .ref (it + 1)) hx hb hts hown hZ fx31 fl_X7_119 rfl dX7_takeExcepted_36 ?_
      have fx32 : V6 (it + 1) = some (.inr (9, [.ref (it + 1 + 1), .int (fz)])) := (fr11 (it + 1) (hq_tne hy4 hy2 (by simp))).trans (hc2)
      have fx33 : V6 (it + 2) = some (.inl (cs 0, 8, .inl (ff))) := (fr11 (it + 2) (hq_tne hy5 hy2 (by simp))).trans (hc3)
      have pk34 := hp0.keep (fr11 (kb) (hq_tne hy0 hy2 (by simp))) (fr11 (kb + 1) (hq_tne hy1 hy2 (by simp)))
      refine hp_calli (hp_runV (As := [.ref (it + 1)]) (rest := []) hx hb hml hown hts (x_takeLetters l D cs B G V6 n hP.1 (kb) (qb) (w) (j) (it + 1) (z12) (z13) (nx) (tk) (st) (fz) (ff) hy0 hy1 hy2 hy4 hy5 ho14 fx32 fx33 pk34 hA (by omega) (by omega)) hZ ho14 cv_X7_122 rfl rfl ⟨Nat.le_of_ble_eq_true rfl, Nat.le_of_ble_eq_true rfl⟩ rfl hl.1 rfl (Nat.le_of_ble_eq_true rfl) dX7_takeExcepted_39 ⟨(Nat.le_of_ble_eq_true rfl), (Nat.le_of_ble_eq_true rfl)⟩) hZ (fun r38 V35 n36 _ _ hw37 hZ => ?_)
      obtain ⟨rfl, hq39, fr40, z41, z42, z43, z44, z45, z46, u47, ho48, ho49, ho50, hp51, hp52, hp53⟩ := hw37
      have b54 := hq_rng z41
      have b55 := hq_rng z42
      have b56 := hq_rng z43
      have b57 := hq_rng z44
      have b58 := hq_rng z45
      have b59 := hq_rng z46
      have hP := hP.trans hq39 (fun _ h => Bool.noConfusion h)
      have hf60 := hq_rgB hP.1 hy5 ho50
      have b61 := hq_rng r38
      refine lv_if_eq (tgt := 49) hx hb dX7_takeExcepted_42 (by decide) (fun c62 => ?_) (fun c62 => ?_)
      · have c62 : (r38).toInt = (0 : Int) := hq_eqi.mp c62
        have hF63 := hx_D.pos hp51 (by omega)
        have b64 := hF63.1
        have b65 := hF63.2.1
        refine lv_iconst (v := 0) hx hb dX7_takeExcepted_49 (by decide) ?_
        have hl66 : (0 : Int32).toInt = 0 := by decide
        exact hp_zret hx hb hr rfl hlocks hZ ⟨rfl, hP, (fun x8 hne0 hne1 hne2 => (fr40 x8 hne0 hne1 hne2).trans (fr11 x8 hne0)), z41, z42, z43, z44, z45, z46, u47, ho48, ho49, ho50, hx_D.l (by omega) (by unfold sp_exc; (repeat (first | (rw [if_pos]; rotate_left; omega) | (rw [if_neg]; rotate_left; omega))); (try dsimp only); first | exact hF63 | exact ⟨by omega, by omega, by omega⟩), by omega, by omega⟩ dX7_takeExcepted_50
      · have c62 : ¬ (r38).toInt = (0 : Int) := fun h9 => c62 (hq_eqi.mpr h9)
        obtain ⟨b67, ⟨b68, b69, hA70⟩, b71, b72⟩ := hx_D.neg hp51 (by omega)
        obtain ⟨b73, b74, b75, b76⟩ := id hA70
        refine lv_iconst (v := 1) hx hb dX7_takeExcepted_45 (by decide) ?_
        refine lv_goto (tgt := 50) hx hb dX7_takeExcepted_46 (by decide) ?_
        have hl77 : (1 : Int32).toInt = 1 := by decide
        exact hp_zret hx hb hr rfl hlocks hZ ⟨rfl, hP, (fun x8 hne0 hne1 hne2 => (fr40 x8 hne0 hne1 hne2).trans (fr11 x8 hne0)), z41, z42, z43, z44, z45, z46, u47, ho48, ho49, ho50, hx_D.r (by omega) (by unfold sp_exc; (repeat (first | (rw [if_pos]; rotate_left; omega) | (rw [if_neg]; rotate_left; omega))); (try dsimp only); exact ⟨by first | rfl | omega, ⟨by omega, by omega, hA70⟩, by omega, b72⟩), by omega, by omega⟩ dX7_takeExcepted_50
  · have c5 : (tk).toInt = (19 : Int) := hq_eqi.mp c5
    refine lv_aload_n hx hb dX7_takeExcepted_9 rfl (lv_at hl 0 rfl) ?_
    refine hp_get (v := .ref (qb)) hx hb hts hown hZ hc0 fl_X7_30 rfl dX7_takeExcepted_10 ?_
    refine lv_aload_n hx hb dX7_takeExcepted_13 rfl (lv_at hl 1 rfl) ?_
    refine hp_calli (hp_runV (As := [.ref (it)]) (rest := []) hx hb hml hown hts (x_exceptsLike l D cs B G V n hP.1 (qb) (w) (it) (lz) (lk) (lo) (lt) (lp) (lh) (lht) (lpa) (lla) (bc) (bv) (bl)  hc4 hc1 hp1 hp2 hbl) hZ hc4 cv_X7_170 rfl rfl ⟨Nat.le_of_ble_eq_true rfl, Nat.le_of_ble_eq_true rfl⟩ rfl hl.1 rfl (Nat.le_of_ble_eq_true rfl) dX7_takeExcepted_14 ⟨(Nat.le_of_ble_eq_true rfl), (Nat.le_of_ble_eq_true rfl)⟩) hZ (fun r81 V78 n79 _ _ hw80 hZ => ?_)
    obtain ⟨rfl, rfl, hp84⟩ := hw80
    have b85 := hq_rng r81
    refine lv_iconst (v := 2) hx hb dX7_takeExcepted_17 (by decide) ?_
    refine lv_icmp_lt (tgt := 27) hx hb dX7_takeExcepted_18 (by decide) (fun c86 => ?_) (fun c86 => ?_)
    · have c86 : (r81).toInt < (2 : Int) := hq_lti.mp c86
      refine lv_aload_n hx hb dX7_takeExcepted_27 rfl (lv_at hl 0 rfl) ?_
      refine hp_calli (hp_runV (As := []) (rest := []) hx hb hml hown hts (x_isNotEmpty l D cs B G V n hP.1 (kb) (qb) (w) (j) (fk) (fp) (nx) (tk) (st) hy2 hc0  hA hz9) hZ hc0 cv_X7_151 rfl rfl ⟨Nat.le_of_ble_eq_true rfl, Nat.le_of_ble_eq_true rfl⟩ rfl hl.1 rfl (Nat.le_of_ble_eq_true rfl) dX7_takeExcepted_28 ⟨(Nat.le_of_ble_eq_true rfl), (Nat.le_of_ble_eq_true rfl)⟩) hZ (fun r90 V87 n88 _ _ hw89 hZ => ?_)
      obtain ⟨rfl, hq91, fr92, z93, z94, ho95, hp96, hp97⟩ := hw89
      have b98 := hq_rng z93
      have b99 := hq_rng z94
      have hP := hP.trans hq91 (fun _ h => Bool.noConfusion h)
      have b100 := hq_rng r90
      refine lv_if_eq (tgt := 49) hx hb dX7_takeExcepted_31 (by decide) (fun c101 => ?_) (fun c101 => ?_)
      · have c101 : (r90).toInt = (0 : Int) := hq_eqi.mp c101
        have hF102 := hx_D.pos hp96 (by omega)
        have b103 := hF102.1
        have b104 := hF102.2.1
        refine lv_iconst (v := 0) hx hb dX7_takeExcepted_49 (by decide) ?_
        have hl105 : (0 : Int32).toInt = 0 := by decide
        have fx106 : V87 (it + 1) = some (.inr (9, [.ref (it + 1 + 1), .int (fz)])) := (fr92 (it + 1) (hq_tne hy4 hy2 (by simp))).trans (hc2)
        have fx107 : V87 (it + 2) = some (.inl (cs 0, 8, .inl (ff))) := (fr92 (it + 2) (hq_tne hy5 hy2 (by simp))).trans (hc3)
        exact hp_zret hx hb hr rfl hlocks hZ ⟨rfl, hP, (fun x8 hne0 hne1 hne2 => fr92 x8 hne0), z93, z94, nx, tk, st, fz, ff, ho95, fx106, fx107, hx_D.l (by omega) (by unfold sp_exc; (repeat (first | (rw [if_pos]; rotate_left; omega) | (rw [if_neg]; rotate_left; omega))); (try dsimp only); first | exact hF102 | exact ⟨by omega, by omega, by omega⟩), by omega, by omega⟩ dX7_takeExcepted_50
      · have c101 : ¬ (r90).toInt = (0 : Int) := fun h9 => c101 (hq_eqi.mpr h9)
        obtain ⟨b108, ⟨b109, b110⟩⟩ := hx_D.neg hp96 (by omega)
        refine lv_aload_n hx hb dX7_takeExcepted_34 rfl (lv_at hl 0 rfl) ?_
        refine lv_aload_n hx hb dX7_takeExcepted_35 rfl (lv_at hl 1 rfl) ?_
        have fx112 : V87 (it) = some (.inr (5, [.int (lk), .int (lo), .int (lt), .int (lp), .int (lh), .int (lht), .int (lpa), .int (lla), .ref (it + 1), .ref (it + 3)])) := (fr92 (it) (hq_tne hy3 hy2 (by simp))).trans (hc1)
        refine hp_get (v := .ref (it + 1)) hx hb hts hown hZ fx112 fl_X7_119 rfl dX7_takeExcepted_36 ?_
        have fx113 : V87 (it + 1) = some (.inr (9, [.ref (it + 1 + 1), .int (fz)])) := (fr92 (it + 1) (hq_tne hy4 hy2 (by simp))).trans (hc2)
        have fx114 : V87 (it + 2) = some (.inl (cs 0, 8, .inl (ff))) := (fr92 (it + 2) (hq_tne hy5 hy2 (by simp))).trans (hc3)
        have pk115 := hp0.keep (fr92 (kb) (hq_tne hy0 hy2 (by simp))) (fr92 (kb + 1) (hq_tne hy1 hy2 (by simp)))
        refine hp_calli (hp_runV (As := [.ref (it + 1)]) (rest := []) hx hb hml hown hts (x_takeLetters l D cs B G V87 n hP.1 (kb) (qb) (w) (j) (it + 1) (z93) (z94) (nx) (tk) (st) (fz) (ff) hy0 hy1 hy2 hy4 hy5 ho95 fx113 fx114 pk115 hA (by omega) (by omega)) hZ ho95 cv_X7_122 rfl rfl ⟨Nat.le_of_ble_eq_true rfl, Nat.le_of_ble_eq_true rfl⟩ rfl hl.1 rfl (Nat.le_of_ble_eq_true rfl) dX7_takeExcepted_39 ⟨(Nat.le_of_ble_eq_true rfl), (Nat.le_of_ble_eq_true rfl)⟩) hZ (fun r119 V116 n117 _ _ hw118 hZ => ?_)
        obtain ⟨rfl, hq120, fr121, z122, z123, z124, z125, z126, z127, u128, ho129, ho130, ho131, hp132, hp133, hp134⟩ := hw118
        have b135 := hq_rng z122
        have b136 := hq_rng z123
        have b137 := hq_rng z124
        have b138 := hq_rng z125
        have b139 := hq_rng z126
        have b140 := hq_rng z127
        have hP := hP.trans hq120 (fun _ h => Bool.noConfusion h)
        have hf141 := hq_rgB hP.1 hy5 ho131
        have b142 := hq_rng r119
        refine lv_if_eq (tgt := 49) hx hb dX7_takeExcepted_42 (by decide) (fun c143 => ?_) (fun c143 => ?_)
        · have c143 : (r119).toInt = (0 : Int) := hq_eqi.mp c143
          have hF144 := hx_D.pos hp132 (by omega)
          have b145 := hF144.1
          have b146 := hF144.2.1
          refine lv_iconst (v := 0) hx hb dX7_takeExcepted_49 (by decide) ?_
          have hl147 : (0 : Int32).toInt = 0 := by decide
          exact hp_zret hx hb hr rfl hlocks hZ ⟨rfl, hP, (fun x8 hne0 hne1 hne2 => (fr121 x8 hne0 hne1 hne2).trans (fr92 x8 hne0)), z122, z123, z124, z125, z126, z127, u128, ho129, ho130, ho131, hx_D.l (by omega) (by unfold sp_exc; (repeat (first | (rw [if_pos]; rotate_left; omega) | (rw [if_neg]; rotate_left; omega))); (try dsimp only); first | exact hF144 | exact ⟨by omega, by omega, by omega⟩), by omega, by omega⟩ dX7_takeExcepted_50
        · have c143 : ¬ (r119).toInt = (0 : Int) := fun h9 => c143 (hq_eqi.mpr h9)
          obtain ⟨b148, ⟨b149, b150, hA151⟩, b152, b153⟩ := hx_D.neg hp132 (by omega)
          obtain ⟨b154, b155, b156, b157⟩ := id hA151
          refine lv_iconst (v := 1) hx hb dX7_takeExcepted_45 (by decide) ?_
          refine lv_goto (tgt := 50) hx hb dX7_takeExcepted_46 (by decide) ?_
          have hl158 : (1 : Int32).toInt = 1 := by decide
          exact hp_zret hx hb hr rfl hlocks hZ ⟨rfl, hP, (fun x8 hne0 hne1 hne2 => (fr121 x8 hne0 hne1 hne2).trans (fr92 x8 hne0)), z122, z123, z124, z125, z126, z127, u128, ho129, ho130, ho131, hx_D.r (by omega) (by unfold sp_exc; (repeat (first | (rw [if_pos]; rotate_left; omega) | (rw [if_neg]; rotate_left; omega))); (try dsimp only); exact ⟨by first | rfl | omega, ⟨by omega, by omega, hA151⟩, by omega, b153⟩), by omega, by omega⟩ dX7_takeExcepted_50
    · have c86 : ¬ (r81).toInt < (2 : Int) := fun h9 => c86 (hq_lti.mpr h9)
      refine lv_aload_n hx hb dX7_takeExcepted_21 rfl (lv_at hl 0 rfl) ?_
      refine lv_iconst (v := 4) hx hb dX7_takeExcepted_22 (by decide) ?_
      have hl159 : (4 : Int32).toInt = 4 := by decide
      refine hp_calli (hp_runV (As := [.int (4)]) (rest := []) hx hb hml hown hts (x_refuse l D cs B G V n hP.1 (kb) (qb) (4) (fk) (fp) (nx) (tk) (st) hy2 hc0  ) hZ hc0 cv_X7_65 rfl rfl ⟨Nat.le_of_ble_eq_true rfl, Nat.le_of_ble_eq_true rfl⟩ rfl hl.1 rfl (Nat.le_of_ble_eq_true rfl) dX7_takeExcepted_23 ⟨(Nat.le_of_ble_eq_true rfl), (Nat.le_of_ble_eq_true rfl)⟩) hZ (fun r163 V160 n161 _ _ hw162 hZ => ?_)
      obtain ⟨rfl, hq164, fr165, ho166, hp167⟩ := hw162
      have hP := hP.trans hq164 (fun _ h => Bool.noConfusion h)
      have b168 := hq_rng r163
      have hl169 : (4 : Int32).toInt = 4 := by decide
      have fx170 : V160 (it + 1) = some (.inr (9, [.ref (it + 1 + 1), .int (fz)])) := (fr165 (it + 1) (hq_tne hy4 hy2 (by simp))).trans (hc2)
      have fx171 : V160 (it + 2) = some (.inl (cs 0, 8, .inl (ff))) := (fr165 (it + 2) (hq_tne hy5 hy2 (by simp))).trans (hc3)
      exact hp_zret hx hb hr (hq_nzi (by omega) (by omega)) hlocks hZ ⟨rfl, hP, (fun x8 hne0 hne1 hne2 => fr165 x8 hne0), 4, st, nx, tk, st, fz, ff, ho166, fx170, fx171, hx_D.l (by omega) (by unfold sp_exc; (repeat (first | (rw [if_pos]; rotate_left; omega) | (rw [if_neg]; rotate_left; omega))); (try dsimp only); first | exact hA | exact ⟨by omega, by omega, by omega⟩), by omega, by omega⟩ dX7_takeExcepted_26

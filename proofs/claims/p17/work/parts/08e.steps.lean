set_option maxHeartbeats 4000000 in
set_option maxRecDepth 100000 in
theorem x_refuse (l : Launch) (D : va_G) (cs : Nat → ClassId) (B : Nat) (G : hq_G) (V : hp_V) (n : Nat) (hI : hq_I cs G V) (kb : Nat) (qb : Nat) (k : Int32) (fk : Int32) (fp : Int32) (nx : Int32) (tk : Int32) (st : Int32) (hy0 : G (kb + 2) = some (10, 0, 0, 0)) (hc0 : V (kb + 2) = some (.inr (7, [.int (fk), .int (fp), .ref (kb), .ref (qb), .int (nx), .int (tk), .int (st), .ref (kb + 3)]))) : hp_M l yX7_refuse cX7_refuse 2 (some .boolean) ({ frames := 1, cells := 0, slots := 0, locals := 21 }) D cs B V n [.ref (kb + 2), .int (k)] (hp_QI D cs B (fun r V' n' => n = n' ∧ hq_P cs G (fun _ => true) V V' ∧ (∀ x, x ≠ kb + 2 → V' x = V x) ∧ V' (kb + 2) = some (.inr (7, [.int (k), .int (st), .ref (kb), .ref (qb), .int (nx), .int (tk), .int (st), .ref (kb + 3)])) ∧ (r.toInt = 0))) 0 0 := by
  refine hp_walk (R0 := RX7) (by decide) rfl ?_ (Nat.le_of_ble_eq_true rfl)
  intro p e s m below meth c ls hx hb hr hts hown hlocks hin hml hZ hl
  have hP : hq_P cs G (fun _ => true) V V := hq_P.rf hI
  have hl : lv_has ls 2 [(0, .ref (kb + 2)), (1, .int (k))] := hl
  have hb_k := hq_rng k
  have hb_fk := hq_rng fk
  have hb_fp := hq_rng fp
  have hb_nx := hq_rng nx
  have hb_tk := hq_rng tk
  have hb_st := hq_rng st
  refine lv_aload_n hx hb dX7_refuse_0 rfl (lv_at hl 0 rfl) ?_
  refine lv_iload_n hx hb dX7_refuse_1 rfl (lv_at hl 1 rfl) ?_
  refine hp_put hx hb hts hown hZ hc0 fp_X7_9 rfl rfl (Nat.le_of_ble_eq_true rfl) dX7_refuse_2 (fun V1 _ _ e2 o3 hZ => ?_)
  have e2 : V1 (kb + 2) = some (.inr (7, [.int (k), .int (fp), .ref (kb), .ref (qb), .int (nx), .int (tk), .int (st), .ref (kb + 3)])) := e2
  have hP := hP.put hy0 e2 o3 (trivial) rfl
  refine lv_aload_n hx hb dX7_refuse_5 rfl (lv_at hl 0 rfl) ?_
  refine lv_aload_n hx hb dX7_refuse_6 rfl (lv_at hl 0 rfl) ?_
  refine hp_get (v := .int (st)) hx hb hts hown hZ e2 fl_X7_174 rfl dX7_refuse_7 ?_
  refine hp_put hx hb hts hown hZ e2 fp_X7_15 rfl rfl (Nat.le_of_ble_eq_true rfl) dX7_refuse_10 (fun V4 _ _ e5 o6 hZ => ?_)
  have e5 : V4 (kb + 2) = some (.inr (7, [.int (k), .int (st), .ref (kb), .ref (qb), .int (nx), .int (tk), .int (st), .ref (kb + 3)])) := e5
  have hP := hP.put hy0 e5 o6 (trivial) rfl
  refine lv_iconst (v := 0) hx hb dX7_refuse_13 (by decide) ?_
  have hl7 : (0 : Int32).toInt = 0 := by decide
  exact hp_zret hx hb hr rfl hlocks hZ ⟨rfl, hP, (fun x8 hne0 => (o6 x8 hne0).trans (o3 x8 hne0)), e5, (by omega)⟩ dX7_refuse_14

theorem x_next (l : Launch) (D : va_G) (cs : Nat → ClassId) (B : Nat) (G : hq_G) (V : hp_V) (n : Nat) (hI : hq_I cs G V) (kb : Nat) (qb : Nat) (w : sp_W) (j : Nat) (fk : Int32) (fp : Int32) (nx : Int32) (tk : Int32) (st : Int32) (hy0 : G (kb) = some (0, 4000, 0, 0)) (hy1 : G (kb + 1) = some (1, 4000, 0, 0)) (hy2 : G (kb + 2) = some (10, 0, 0, 0)) (hc0 : V (kb + 2) = some (.inr (7, [.int (fk), .int (fp), .ref (kb), .ref (qb), .int (nx), .int (tk), .int (st), .ref (kb + 3)]))) (hp0 : hx_TP cs V kb w) (hA : hx_A w j st nx tk) (hk : sp_k w j ≤ 20) : hp_M l yX7_step cX7_step 3 none ({ frames := 6, cells := 0, slots := 0, locals := 130 }) D cs B V n [.ref (kb + 2)] (hp_QV D cs B (fun V' n' => n = n' ∧ hq_P cs G (fun _ => true) V V' ∧ (∀ x, x ≠ kb + 2 → V' x = V x) ∧ (∃ nx1 : Int32, ∃ tk1 : Int32, ∃ st1 : Int32, V' (kb + 2) = some (.inr (7, [.int (fk), .int (fp), .ref (kb), .ref (qb), .int (nx1), .int (tk1), .int (st1), .ref (kb + 3)])) ∧ (hx_A w (j + 1) st1 nx1 tk1)))) 0 0 :=
  x_step l D cs B G V n hI kb qb w (j + 1) fk fp nx tk st hy0 hy1 hy2 hc0 hp0 hA.2.2.1 (sp_tok_in hA.1 hk).2.2

set_option maxHeartbeats 4000000 in
set_option maxRecDepth 100000 in
theorem x_take (l : Launch) (D : va_G) (cs : Nat → ClassId) (B : Nat) (G : hq_G) (V : hp_V) (n : Nat) (hI : hq_I cs G V) (kb : Nat) (qb : Nat) (w : sp_W) (j : Nat) (d : Int) (k : Int32) (fk : Int32) (fp : Int32) (nx : Int32) (tk : Int32) (st : Int32) (hy0 : G (kb) = some (0, 4000, 0, 0)) (hy1 : G (kb + 1) = some (1, 4000, 0, 0)) (hy2 : G (kb + 2) = some (10, 0, 0, 0)) (hc0 : V (kb + 2) = some (.inr (7, [.int (fk), .int (fp), .ref (kb), .ref (qb), .int (nx), .int (tk), .int (st), .ref (kb + 3)]))) (hp0 : hx_TP cs V kb w) (hA : hx_A w j st nx tk) (hd : k.toInt = d) (hk : d ≤ 20) : hp_M l yX7_take cX7_take 2 (some .boolean) ({ frames := 7, cells := 0, slots := 0, locals := 152 }) D cs B V n [.ref (kb + 2), .int (k)] (hp_QI D cs B (fun r V' n' => n = n' ∧ hq_P cs G (fun _ => true) V V' ∧ (∀ x, x ≠ kb + 2 → V' x = V x) ∧ (∃ fk1 : Int32, ∃ fp1 : Int32, ∃ nx1 : Int32, ∃ tk1 : Int32, ∃ st1 : Int32, V' (kb + 2) = some (.inr (7, [.int (fk1), .int (fp1), .ref (kb), .ref (qb), .int (nx1), .int (tk1), .int (st1), .ref (kb + 3)])) ∧ (hx_D (r.toInt = 0) (hx_F w (sp_take w d j).1 (sp_take w d j).2 fk1 fp1) ((sp_take w d j).1 = 0 ∧ hx_O w (sp_take w d j).2 fk fp fk1 fp1 st1 nx1 tk1)) ∧ (r.toInt = 0 ∨ r.toInt = 1)))) 0 0 := by
  refine hp_walk (R0 := RX7) (by decide) rfl ?_ (Nat.le_of_ble_eq_true rfl)
  intro p e s m below meth c ls hx hb hr hts hown hlocks hin hml hZ hl
  have hP : hq_P cs G (fun _ => true) V V := hq_P.rf hI
  have hl : lv_has ls 2 [(0, .ref (kb + 2)), (1, .int (k))] := hl
  have hb_k := hq_rng k
  have hb_fk := hq_rng fk
  have hb_fp := hq_rng fp
  have hb_nx := hq_rng nx
  have hb_tk := hq_rng tk
  have hb_st := hq_rng st
  obtain ⟨b1, b2, b3, b4⟩ := id hA
  refine lv_aload_n hx hb dX7_take_0 rfl (lv_at hl 0 rfl) ?_
  refine hp_get (v := .int (tk)) hx hb hts hown hZ hc0 fl_X7_45 rfl dX7_take_1 ?_
  refine lv_iload_n hx hb dX7_take_4 rfl (lv_at hl 1 rfl) ?_
  refine lv_icmp_eq (tgt := 14) hx hb dX7_take_5 (by decide) (fun c5 => ?_) (fun c5 => ?_)
  · have c5 : (tk).toInt = (k).toInt := hq_eqi.mp c5
    refine lv_aload_n hx hb dX7_take_14 rfl (lv_at hl 0 rfl) ?_
    refine hp_callv (hp_runV (As := []) (rest := []) hx hb hml hown hts (x_next l D cs B G V n hP.1 (kb) (qb) (w) (j) (fk) (fp) (nx) (tk) (st) hy0 hy1 hy2 hc0 hp0 hA (by omega)) hZ hc0 cv_X7_42 rfl rfl ⟨Nat.le_of_ble_eq_true rfl, Nat.le_of_ble_eq_true rfl⟩ rfl hl.1 rfl (Nat.le_of_ble_eq_true rfl) dX7_take_15 ⟨(Nat.le_of_ble_eq_true rfl), (Nat.le_of_ble_eq_true rfl)⟩) hZ (fun V6 n7 _ _ hw8 hZ => ?_)
    obtain ⟨rfl, hq10, fr11, z12, z13, z14, ho15, hp16⟩ := hw8
    have b17 := hq_rng z12
    have b18 := hq_rng z13
    have b19 := hq_rng z14
    have hP := hP.trans hq10 (fun _ h => Bool.noConfusion h)
    obtain ⟨b20, b21, b22, b23⟩ := id hp16
    refine lv_iconst (v := 1) hx hb dX7_take_18 (by decide) ?_
    have hl24 : (1 : Int32).toInt = 1 := by decide
    exact hp_zret hx hb hr rfl hlocks hZ ⟨rfl, hP, (fun x8 hne0 => fr11 x8 hne0), fk, fp, z12, z13, z14, ho15, hx_D.r (by omega) (by unfold sp_take; (repeat (first | (rw [if_pos]; rotate_left; omega) | (rw [if_neg]; rotate_left; omega))); (try dsimp only); exact ⟨by first | rfl | omega, ⟨by omega, by omega, hp16⟩⟩), by omega⟩ dX7_take_19
  · have c5 : ¬ (tk).toInt = (k).toInt := fun h9 => c5 (hq_eqi.mpr h9)
    refine lv_aload_n hx hb dX7_take_8 rfl (lv_at hl 0 rfl) ?_
    refine lv_iconst (v := 1) hx hb dX7_take_9 (by decide) ?_
    have hl25 : (1 : Int32).toInt = 1 := by decide
    refine hp_calli (hp_runV (As := [.int (1)]) (rest := []) hx hb hml hown hts (x_refuse l D cs B G V n hP.1 (kb) (qb) (1) (fk) (fp) (nx) (tk) (st) hy2 hc0  ) hZ hc0 cv_X7_65 rfl rfl ⟨Nat.le_of_ble_eq_true rfl, Nat.le_of_ble_eq_true rfl⟩ rfl hl.1 rfl (Nat.le_of_ble_eq_true rfl) dX7_take_10 ⟨(Nat.le_of_ble_eq_true rfl), (Nat.le_of_ble_eq_true rfl)⟩) hZ (fun r29 V26 n27 _ _ hw28 hZ => ?_)
    obtain ⟨rfl, hq30, fr31, ho32, hp33⟩ := hw28
    have hP := hP.trans hq30 (fun _ h => Bool.noConfusion h)
    have b34 := hq_rng r29
    have hl35 : (1 : Int32).toInt = 1 := by decide
    exact hp_zret hx hb hr (hq_nzi (by omega) (by omega)) hlocks hZ ⟨rfl, hP, (fun x8 hne0 => fr31 x8 hne0), 1, st, nx, tk, st, ho32, hx_D.l (by omega) (by unfold sp_take; (repeat (first | (rw [if_pos]; rotate_left; omega) | (rw [if_neg]; rotate_left; omega))); (try dsimp only); first | exact hA | exact ⟨by omega, by omega, by omega⟩), by omega⟩ dX7_take_13

set_option maxHeartbeats 4000000 in
set_option maxRecDepth 100000 in
theorem x_takeNumber (l : Launch) (D : va_G) (cs : Nat → ClassId) (B : Nat) (G : hq_G) (V : hp_V) (n : Nat) (hI : hq_I cs G V) (kb : Nat) (qb : Nat) (w : sp_W) (j : Nat) (d : Int) (k : Int32) (fk : Int32) (fp : Int32) (nx : Int32) (tk : Int32) (st : Int32) (hy0 : G (kb) = some (0, 4000, 0, 0)) (hy1 : G (kb + 1) = some (1, 4000, 0, 0)) (hy2 : G (kb + 2) = some (10, 0, 0, 0)) (hc0 : V (kb + 2) = some (.inr (7, [.int (fk), .int (fp), .ref (kb), .ref (qb), .int (nx), .int (tk), .int (st), .ref (kb + 3)]))) (hp0 : hx_TP cs V kb w) (hA : hx_A w j st nx tk) (hd : k.toInt = d) (hk : 0 ≤ d ∧ d ≤ 20) : hp_M l yX7_takeNumber cX7_takeNumber 3 (some .int) ({ frames := 7, cells := 0, slots := 0, locals := 152 }) D cs B V n [.ref (kb + 2), .int (k)] (hp_QI D cs B (fun r V' n' => n = n' ∧ hq_P cs G (fun _ => true) V V' ∧ (∀ x, x ≠ kb + 2 → V' x = V x) ∧ (∃ fk1 : Int32, ∃ fp1 : Int32, ∃ nx1 : Int32, ∃ tk1 : Int32, ∃ st1 : Int32, V' (kb + 2) = some (.inr (7, [.int (fk1), .int (fp1), .ref (kb), .ref (qb), .int (nx1), .int (tk1), .int (st1), .ref (kb + 3)])) ∧ (hx_D (r.toInt = -1) (hx_F w (sp_num w d j).1 (sp_num w d j).2.1 fk1 fp1) ((sp_num w d j).1 = 0 ∧ hx_O w (sp_num w d j).2.1 fk fp fk1 fp1 st1 nx1 tk1 ∧ r.toInt = (sp_num w d j).2.2)) ∧ (-1 ≤ r.toInt ∧ r.toInt < d)))) 0 0 := by
  refine hp_walk (R0 := RX7) (by decide) rfl ?_ (Nat.le_of_ble_eq_true rfl)
  intro p e s m below meth c ls hx hb hr hts hown hlocks hin hml hZ hl
  have hP : hq_P cs G (fun _ => true) V V := hq_P.rf hI
  have hl : lv_has ls 3 [(0, .ref (kb + 2)), (1, .int (k))] := hl
  have hb_k := hq_rng k
  have hb_fk := hq_rng fk
  have hb_fp := hq_rng fp
  have hb_nx := hq_rng nx
  have hb_tk := hq_rng tk
  have hb_st := hq_rng st
  obtain ⟨b1, b2, b3, b4⟩ := id hA
  obtain ⟨tz, tg, htz, htg, hz1, hz2, hz3⟩ := id hp0
  have hb_tz := hq_rng tz
  have hfit := hq_rgB hP.1 hy1 htg
  refine lv_aload_n hx hb dX7_takeNumber_0 rfl (lv_at hl 0 rfl) ?_
  refine hp_get (v := .ref (kb)) hx hb hts hown hZ hc0 fl_X7_27 rfl dX7_takeNumber_1 ?_
  refine lv_aload_n hx hb dX7_takeNumber_4 rfl (lv_at hl 0 rfl) ?_
  refine hp_get (v := .int (st)) hx hb hts hown hZ hc0 fl_X7_174 rfl dX7_takeNumber_5 ?_
  refine hp_calli (hp_runV (As := [.int (st)]) (rest := []) hx hb hml hown hts (x_at l D cs B G V n hP.1 (kb) (4000) (st) (tz) (tg)  htz htg  (by omega) hfit) hZ htz cv_X7_182 rfl rfl ⟨Nat.le_of_ble_eq_true rfl, Nat.le_of_ble_eq_true rfl⟩ rfl hl.1 rfl (Nat.le_of_ble_eq_true rfl) dX7_takeNumber_8 ⟨(Nat.le_of_ble_eq_true rfl), (Nat.le_of_ble_eq_true rfl)⟩) hZ (fun r8 V5 n6 _ _ hw7 hZ => ?_)
  obtain ⟨rfl, rfl, hp11⟩ := hw7
  have b12 := hq_rng r8
  have b13 := hx_atw hz3 hz1 hp11
  have b14 : w.1 (st).toInt = w.1 (sp_s w j) := by rw [show (st).toInt = sp_s w j by omega]
  have hdd : sp_d w j = w.1 (sp_s w j) - 48 := rfl
  refine lv_bipush (v := 48) hx hb dX7_takeNumber_11 (by decide) ?_
  refine lv_isub hx hb dX7_takeNumber_13 ?_
  refine lv_topi (fun y15 ey16 => ?_)
  obtain ⟨k17, hk18, b19, b20⟩ := hq_sub (r8) (48)
  rw [← ey16] at hk18 b19 b20
  have hk18 : (y15).toInt = (r8).toInt - (48 : Int) + k17 * 4294967296 := hk18
  obtain rfl : k17 = 0 := by omega
  refine lv_istore_n (lv' := [(2, .int (y15)), (0, .ref (kb + 2)), (1, .int (k))]) hx hb dX7_takeNumber_14 rfl hl (by decide) rfl (fun ls hl => ?_)
  refine lv_aload_n hx hb dX7_takeNumber_15 rfl (lv_at hl 1 rfl) ?_
  refine hp_get (v := .int (tk)) hx hb hts hown hZ hc0 fl_X7_45 rfl dX7_takeNumber_16 ?_
  refine lv_bipush (v := 18) hx hb dX7_takeNumber_19 (by decide) ?_
  refine lv_icmp_ne (tgt := 29) hx hb dX7_takeNumber_21 (by decide) (fun c21 => ?_) (fun c21 => ?_)
  · have c21 : ¬ (tk).toInt = (18 : Int) := fun h9 => c21 (hq_eqi.mpr h9)
    refine lv_aload_n hx hb dX7_takeNumber_29 rfl (lv_at hl 1 rfl) ?_
    refine lv_aload_n hx hb dX7_takeNumber_30 rfl (lv_at hl 1 rfl) ?_
    refine hp_get (v := .int (tk)) hx hb hts hown hZ hc0 fl_X7_45 rfl dX7_takeNumber_31 ?_
    refine lv_bipush (v := 18) hx hb dX7_takeNumber_34 (by decide) ?_
    have hl22 : (18 : Int32).toInt = 18 := by decide
    refine lv_icmp_eq (tgt := 43) hx hb dX7_takeNumber_36 (by decide) (fun c23 => absurd c23 ((fun h9 => absurd (congrArg Int32.toInt h9) (by omega) : ¬ tk = 18))) (fun c23 => ?_)
    refine lv_iconst (v := 1) hx hb dX7_takeNumber_39 (by decide) ?_
    refine lv_goto (tgt := 44) hx hb dX7_takeNumber_40 (by decide) ?_
    have hl24 : (1 : Int32).toInt = 1 := by decide
    refine hp_calli (hp_runV (As := [.int (1)]) (rest := []) hx hb hml hown hts (x_refuse l D cs B G V n hP.1 (kb) (qb) (1) (fk) (fp) (nx) (tk) (st) hy2 hc0  ) hZ hc0 cv_X7_65 rfl rfl ⟨Nat.le_of_ble_eq_true rfl, Nat.le_of_ble_eq_true rfl⟩ rfl hl.1 rfl (Nat.le_of_ble_eq_true rfl) dX7_takeNumber_44 ⟨(Nat.le_of_ble_eq_true rfl), (Nat.le_of_ble_eq_true rfl)⟩) hZ (fun r28 V25 n26 _ _ hw27 hZ => ?_)
    obtain ⟨rfl, hq29, fr30, ho31, hp32⟩ := hw27
    have hP := hP.trans hq29 (fun _ h => Bool.noConfusion h)
    have b33 := hq_rng r28
    refine lv_pop hx hb dX7_takeNumber_47 rfl ?_
    refine lv_iconst (v := -1) hx hb dX7_takeNumber_48 (by decide) ?_
    have hl34 : (-1 : Int32).toInt = -1 := by decide
    have hl35 : (1 : Int32).toInt = 1 := by decide
    exact hp_iret hx hb hr hlocks hZ ⟨rfl, hP, (fun x8 hne0 => fr30 x8 hne0), 1, st, nx, tk, st, ho31, hx_D.l (by omega) (by unfold sp_num; (repeat (first | (rw [if_pos]; rotate_left; omega) | (rw [if_neg]; rotate_left; omega))); (try dsimp only); first | exact hA | exact ⟨by omega, by omega, by omega⟩), by omega⟩ dX7_takeNumber_49
  · have c21 : (tk).toInt = (18 : Int) := hq_eqi.mp c21
    have hn9 := sp_tok_num (w := w) (j := j) (by omega)
    have hn8 := sp_tok_in (w := w) (j := j) hA.1 (by omega)
    have hn7 := sp_tok (w := w) (j := j) hA.1
    refine lv_iload_n hx hb dX7_takeNumber_24 rfl (lv_at hl 0 rfl) ?_
    refine lv_iload_n hx hb dX7_takeNumber_25 rfl (lv_at hl 2 rfl) ?_
    refine lv_icmp_lt (tgt := 50) hx hb dX7_takeNumber_26 (by decide) (fun c36 => ?_) (fun c36 => ?_)
    · have c36 : (y15).toInt < (k).toInt := hq_lti.mp c36
      refine lv_aload_n hx hb dX7_takeNumber_50 rfl (lv_at hl 1 rfl) ?_
      refine hp_callv (hp_runV (As := []) (rest := []) hx hb hml hown hts (x_next l D cs B G V n hP.1 (kb) (qb) (w) (j) (fk) (fp) (nx) (tk) (st) hy0 hy1 hy2 hc0 hp0 hA (by omega)) hZ hc0 cv_X7_42 rfl rfl ⟨Nat.le_of_ble_eq_true rfl, Nat.le_of_ble_eq_true rfl⟩ rfl hl.1 rfl (Nat.le_of_ble_eq_true rfl) dX7_takeNumber_51 ⟨(Nat.le_of_ble_eq_true rfl), (Nat.le_of_ble_eq_true rfl)⟩) hZ (fun V37 n38 _ _ hw39 hZ => ?_)
      obtain ⟨rfl, hq41, fr42, z43, z44, z45, ho46, hp47⟩ := hw39
      have b48 := hq_rng z43
      have b49 := hq_rng z44
      have b50 := hq_rng z45
      have hP := hP.trans hq41 (fun _ h => Bool.noConfusion h)
      obtain ⟨b51, b52, b53, b54⟩ := id hp47
      refine lv_iload_n hx hb dX7_takeNumber_54 rfl (lv_at hl 0 rfl) ?_
      exact hp_iret hx hb hr hlocks hZ ⟨rfl, hP, (fun x8 hne0 => fr42 x8 hne0), fk, fp, z43, z44, z45, ho46, hx_D.r (by omega) (by unfold sp_num; (repeat (first | (rw [if_pos]; rotate_left; omega) | (rw [if_neg]; rotate_left; omega))); (try dsimp only); exact ⟨by first | rfl | omega, ⟨by omega, by omega, hp47⟩, by omega⟩), by omega⟩ dX7_takeNumber_55
    · have c36 : ¬ (y15).toInt < (k).toInt := fun h9 => c36 (hq_lti.mpr h9)
      refine lv_aload_n hx hb dX7_takeNumber_29 rfl (lv_at hl 1 rfl) ?_
      refine lv_aload_n hx hb dX7_takeNumber_30 rfl (lv_at hl 1 rfl) ?_
      refine hp_get (v := .int (tk)) hx hb hts hown hZ hc0 fl_X7_45 rfl dX7_takeNumber_31 ?_
      refine lv_bipush (v := 18) hx hb dX7_takeNumber_34 (by decide) ?_
      have hl55 : (18 : Int32).toInt = 18 := by decide
      refine lv_icmp_eq (tgt := 43) hx hb dX7_takeNumber_36 (by decide) (fun c56 => ?_) (fun c56 => absurd ((Int32.toInt_inj.mp (by omega) : tk = 18)) c56)
      refine lv_iconst (v := 3) hx hb dX7_takeNumber_43 (by decide) ?_
      have hl57 : (3 : Int32).toInt = 3 := by decide
      refine hp_calli (hp_runV (As := [.int (3)]) (rest := []) hx hb hml hown hts (x_refuse l D cs B G V n hP.1 (kb) (qb) (3) (fk) (fp) (nx) (tk) (st) hy2 hc0  ) hZ hc0 cv_X7_65 rfl rfl ⟨Nat.le_of_ble_eq_true rfl, Nat.le_of_ble_eq_true rfl⟩ rfl hl.1 rfl (Nat.le_of_ble_eq_true rfl) dX7_takeNumber_44 ⟨(Nat.le_of_ble_eq_true rfl), (Nat.le_of_ble_eq_true rfl)⟩) hZ (fun r61 V58 n59 _ _ hw60 hZ => ?_)
      obtain ⟨rfl, hq62, fr63, ho64, hp65⟩ := hw60
      have hP := hP.trans hq62 (fun _ h => Bool.noConfusion h)
      have b66 := hq_rng r61
      refine lv_pop hx hb dX7_takeNumber_47 rfl ?_
      refine lv_iconst (v := -1) hx hb dX7_takeNumber_48 (by decide) ?_
      have hl67 : (-1 : Int32).toInt = -1 := by decide
      have hl68 : (3 : Int32).toInt = 3 := by decide
      exact hp_iret hx hb hr hlocks hZ ⟨rfl, hP, (fun x8 hne0 => fr63 x8 hne0), 3, st, nx, tk, st, ho64, hx_D.l (by omega) (by unfold sp_num; (repeat (first | (rw [if_pos]; rotate_left; omega) | (rw [if_neg]; rotate_left; omega))); (try dsimp only); first | exact hA | exact ⟨by omega, by omega, by omega⟩), by omega⟩ dX7_takeNumber_49

set_option maxHeartbeats 4000000 in
set_option maxRecDepth 100000 in
theorem x_isNotEmpty (l : Launch) (D : va_G) (cs : Nat → ClassId) (B : Nat) (G : hq_G) (V : hp_V) (n : Nat) (hI : hq_I cs G V) (kb : Nat) (qb : Nat) (w : sp_W) (j : Nat) (fk : Int32) (fp : Int32) (nx : Int32) (tk : Int32) (st : Int32) (hy0 : G (kb + 2) = some (10, 0, 0, 0)) (hc0 : V (kb + 2) = some (.inr (7, [.int (fk), .int (fp), .ref (kb), .ref (qb), .int (nx), .int (tk), .int (st), .ref (kb + 3)]))) (hA : hx_A w j st nx tk) (hz : 0 ≤ w.2 ∧ w.2 ≤ 4000) : hp_M l yX7_isNotEmpty cX7_isNotEmpty 1 (some .boolean) ({ frames := 2, cells := 0, slots := 0, locals := 42 }) D cs B V n [.ref (kb + 2)] (hp_QI D cs B (fun r V' n' => n = n' ∧ hq_P cs G (fun _ => true) V V' ∧ (∀ x, x ≠ kb + 2 → V' x = V x) ∧ (∃ fk1 : Int32, ∃ fp1 : Int32, V' (kb + 2) = some (.inr (7, [.int (fk1), .int (fp1), .ref (kb), .ref (qb), .int (nx), .int (tk), .int (st), .ref (kb + 3)])) ∧ (hx_D (r.toInt = 0) (hx_F w (sp_nem w j).1 (sp_nem w j).2 fk1 fp1) ((sp_nem w j).1 = 0 ∧ fk1.toInt = fk.toInt ∧ fp1.toInt = fp.toInt)) ∧ (r.toInt = 0 ∨ r.toInt = 1)))) 0 0 := by
  refine hp_walk (R0 := RX7) (by decide) rfl ?_ (Nat.le_of_ble_eq_true rfl)
  intro p e s m below meth c ls hx hb hr hts hown hlocks hin hml hZ hl
  have hP : hq_P cs G (fun _ => true) V V := hq_P.rf hI
  have hl : lv_has ls 1 [(0, .ref (kb + 2))] := hl
  have hb_fk := hq_rng fk
  have hb_fp := hq_rng fp
  have hb_nx := hq_rng nx
  have hb_tk := hq_rng tk
  have hb_st := hq_rng st
  obtain ⟨b1, b2, b3, b4⟩ := id hA
  have ht9 := sp_tok (w := w) (j := j) hA.1
  refine lv_aload_n hx hb dX7_isNotEmpty_0 rfl (lv_at hl 0 rfl) ?_
  refine hp_get (v := .int (tk)) hx hb hts hown hZ hc0 fl_X7_45 rfl dX7_isNotEmpty_1 ?_
  refine lv_bipush (v := 19) hx hb dX7_isNotEmpty_4 (by decide) ?_
  refine lv_icmp_ne (tgt := 30) hx hb dX7_isNotEmpty_6 (by decide) (fun c5 => ?_) (fun c5 => ?_)
  · have c5 : ¬ (tk).toInt = (19 : Int) := fun h9 => c5 (hq_eqi.mpr h9)
    refine lv_iconst (v := 1) hx hb dX7_isNotEmpty_30 (by decide) ?_
    refine lv_goto (tgt := 35) hx hb dX7_isNotEmpty_31 (by decide) ?_
    have hl6 : (1 : Int32).toInt = 1 := by decide
    exact hp_zret hx hb hr rfl hlocks hZ ⟨rfl, hP, (fun x8 hne0 => rfl), fk, fp, hc0, hx_D.r (by omega) (by unfold sp_nem; (repeat (first | (rw [if_pos]; rotate_left; omega) | (rw [if_neg]; rotate_left; omega))); (try dsimp only); exact ⟨by first | rfl | omega, ⟨by omega, by omega⟩⟩), by omega⟩ dX7_isNotEmpty_35
  · have c5 : (tk).toInt = (19 : Int) := hq_eqi.mp c5
    have ht7 := sp_tok_let (w := w) (j := j) (by omega)
    have ht6 := sp_tok_in (w := w) (j := j) hA.1 (by omega)
    refine lv_aload_n hx hb dX7_isNotEmpty_9 rfl (lv_at hl 0 rfl) ?_
    refine hp_get (v := .int (nx)) hx hb hts hown hZ hc0 fl_X7_39 rfl dX7_isNotEmpty_10 ?_
    refine lv_aload_n hx hb dX7_isNotEmpty_13 rfl (lv_at hl 0 rfl) ?_
    refine hp_get (v := .int (st)) hx hb hts hown hZ hc0 fl_X7_174 rfl dX7_isNotEmpty_14 ?_
    refine lv_isub hx hb dX7_isNotEmpty_17 ?_
    refine lv_topi (fun y7 ey8 => ?_)
    obtain ⟨k9, hk10, b11, b12⟩ := hq_sub (nx) (st)
    rw [← ey8] at hk10 b11 b12
    have hk10 : (y7).toInt = (nx).toInt - (st).toInt + k9 * 4294967296 := hk10
    obtain rfl : k9 = 0 := by omega
    refine lv_iconst (v := 2) hx hb dX7_isNotEmpty_18 (by decide) ?_
    refine lv_icmp_gt (tgt := 30) hx hb dX7_isNotEmpty_19 (by decide) (fun c13 => ?_) (fun c13 => ?_)
    · have c13 : (2 : Int) < (y7).toInt := hq_lti.mp c13
      refine lv_iconst (v := 1) hx hb dX7_isNotEmpty_30 (by decide) ?_
      refine lv_goto (tgt := 35) hx hb dX7_isNotEmpty_31 (by decide) ?_
      have hl14 : (1 : Int32).toInt = 1 := by decide
      exact hp_zret hx hb hr rfl hlocks hZ ⟨rfl, hP, (fun x8 hne0 => rfl), fk, fp, hc0, hx_D.r (by omega) (by unfold sp_nem; (repeat (first | (rw [if_pos]; rotate_left; omega) | (rw [if_neg]; rotate_left; omega))); (try dsimp only); exact ⟨by first | rfl | omega, ⟨by omega, by omega⟩⟩), by omega⟩ dX7_isNotEmpty_35
    · have c13 : ¬ (2 : Int) < (y7).toInt := fun h9 => c13 (hq_lti.mpr h9)
      refine lv_aload_n hx hb dX7_isNotEmpty_22 rfl (lv_at hl 0 rfl) ?_
      refine lv_iconst (v := 5) hx hb dX7_isNotEmpty_23 (by decide) ?_
      have hl15 : (5 : Int32).toInt = 5 := by decide
      refine hp_calli (hp_runV (As := [.int (5)]) (rest := []) hx hb hml hown hts (x_refuse l D cs B G V n hP.1 (kb) (qb) (5) (fk) (fp) (nx) (tk) (st) hy0 hc0  ) hZ hc0 cv_X7_65 rfl rfl ⟨Nat.le_of_ble_eq_true rfl, Nat.le_of_ble_eq_true rfl⟩ rfl hl.1 rfl (Nat.le_of_ble_eq_true rfl) dX7_isNotEmpty_24 ⟨(Nat.le_of_ble_eq_true rfl), (Nat.le_of_ble_eq_true rfl)⟩) hZ (fun r19 V16 n17 _ _ hw18 hZ => ?_)
      obtain ⟨rfl, hq20, fr21, ho22, hp23⟩ := hw18
      have hP := hP.trans hq20 (fun _ h => Bool.noConfusion h)
      have b24 := hq_rng r19
      have hl25 : (0 : Int32).toInt = 0 := by decide
      refine lv_if_eq (tgt := 34) hx hb dX7_isNotEmpty_27 (by decide) (fun c26 => ?_) (fun c26 => absurd ((Int32.toInt_inj.mp (by omega) : r19 = 0)) c26)
      refine lv_iconst (v := 0) hx hb dX7_isNotEmpty_34 (by decide) ?_
      have hl27 : (0 : Int32).toInt = 0 := by decide
      have hl28 : (5 : Int32).toInt = 5 := by decide
      exact hp_zret hx hb hr rfl hlocks hZ ⟨rfl, hP, (fun x8 hne0 => fr21 x8 hne0), 5, st, ho22, hx_D.l (by omega) (by unfold sp_nem; (repeat (first | (rw [if_pos]; rotate_left; omega) | (rw [if_neg]; rotate_left; omega))); (try dsimp only); first | exact hA | exact ⟨by omega, by omega, by omega⟩), by omega⟩ dX7_isNotEmpty_35

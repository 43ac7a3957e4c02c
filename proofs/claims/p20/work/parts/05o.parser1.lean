set_option maxHeartbeats 4000000 in
set_option maxRecDepth 100000 in
theorem t_X5_begin_1 (l : Launch) (D : va_G) (cs : Nat → ClassId) (B : Nat) (G : hq_G) (V : hp_V) (n : Nat) (hI : hq_I cs G V) (it : Nat) (h_it : G it = some (5, 1, 0, 0)) (k : Int32) {l_f l_s : Nat} {l_k l_o l_t l_p l_h l_ht l_pa l_la : Int32} (ho_it : V it = some (.inr (5, [.int (l_k), .int (l_o), .int (l_t), .int (l_p), .int (l_h), .int (l_ht), .int (l_pa), .int (l_la), .ref (l_f), .ref (l_s)]))) (h_l_f : G l_f = some (0, 8, 0, 0)) (h_l_s : G l_s = some (0, 8, 0, 0)) (hi_it0 : -1 ≤ l_h.toInt ∧ l_h.toInt ≤ 29) : hp_M l yX5_begin cX5_begin 2 none ({ frames := 2, cells := 0, slots := 0, locals := 41 }) D cs B V n [.ref (it), .int (k)] (hp_QV D cs B (fun V' n' => n = n' ∧ hq_P cs G (fun g => g.1 == 3 || (g.1 == 20 && g.2 == 1)) V V' ∧ (∃ (l_k1 : Int32) (l_o1 : Int32) (l_t1 : Int32) (l_p1 : Int32) (l_h1 : Int32) (l_ht1 : Int32) (l_pa1 : Int32) (l_la1 : Int32), V' it = some (.inr (5, [.int (l_k1), .int (l_o1), .int (l_t1), .int (l_p1), .int (l_h1), .int (l_ht1), .int (l_pa1), .int (l_la1), .ref (l_f), .ref (l_s)])) ∧ (-1 ≤ l_h1.toInt ∧ l_h1.toInt ≤ 29) ∧ (l_k1.toInt = k.toInt)) ∧ (∀ x, G x = some (5, 1, 0, 0) → x ≠ it → V' x = V x))) 0 0 := by
  refine hp_walk (R0 := RX5) (by decide) rfl ?_ (Nat.le_of_ble_eq_true rfl)
  intro p e s m below meth c ls hx hb hr hts hown hlocks hin hml hZ hl
  have hP : hq_P cs G (fun g => g.1 == 3 || (g.1 == 20 && g.2 == 1)) V V := hq_P.rf hI
  have hl : lv_has ls 2 [(0, .ref (it)), (1, .int (k))] := hl
  have hb_k := hq_rng k
  have hb_l_k := hq_rng l_k
  have hb_l_o := hq_rng l_o
  have hb_l_t := hq_rng l_t
  have hb_l_p := hq_rng l_p
  have hb_l_h := hq_rng l_h
  have hb_l_ht := hq_rng l_ht
  have hb_l_pa := hq_rng l_pa
  have hb_l_la := hq_rng l_la
  refine lv_aload_n hx hb dX5_begin_0 rfl (lv_at hl 0 rfl) ?_
  refine lv_iload_n hx hb dX5_begin_1 rfl (lv_at hl 1 rfl) ?_
  refine hp_put hx hb hts hown hZ ho_it fp_X5_23 rfl rfl (Nat.le_of_ble_eq_true rfl) dX5_begin_2 (fun V1 _ _ e2 o3 hZ => ?_)
  have e2 : V1 (it) = some (.inr (5, [.int (k), .int (l_o), .int (l_t), .int (l_p), .int (l_h), .int (l_ht), .int (l_pa), .int (l_la), .ref (l_f), .ref (l_s)])) := e2
  have hP := hP.put h_it e2 o3 (hq_c5 h_l_f h_l_s (show -1 ≤ (l_h).toInt by omega) (show (l_h).toInt ≤ 29 by omega)) rfl
  refine lv_aload_n hx hb dX5_begin_5 rfl (lv_at hl 0 rfl) ?_
  refine lv_iconst (v := -1) hx hb dX5_begin_6 (by decide) ?_
  refine hp_put hx hb hts hown hZ e2 fp_X5_27 rfl rfl (Nat.le_of_ble_eq_true rfl) dX5_begin_7 (fun V4 _ _ e5 o6 hZ => ?_)
  have e5 : V4 (it) = some (.inr (5, [.int (k), .int (-1), .int (l_t), .int (l_p), .int (l_h), .int (l_ht), .int (l_pa), .int (l_la), .ref (l_f), .ref (l_s)])) := e5
  have hP := hP.put h_it e5 o6 (hq_c5 h_l_f h_l_s (show -1 ≤ (l_h).toInt by omega) (show (l_h).toInt ≤ 29 by omega)) rfl
  refine lv_aload_n hx hb dX5_begin_10 rfl (lv_at hl 0 rfl) ?_
  refine lv_iconst (v := -1) hx hb dX5_begin_11 (by decide) ?_
  refine hp_put hx hb hts hown hZ e5 fp_X5_30 rfl rfl (Nat.le_of_ble_eq_true rfl) dX5_begin_12 (fun V7 _ _ e8 o9 hZ => ?_)
  have e8 : V7 (it) = some (.inr (5, [.int (k), .int (-1), .int (-1), .int (l_p), .int (l_h), .int (l_ht), .int (l_pa), .int (l_la), .ref (l_f), .ref (l_s)])) := e8
  have hP := hP.put h_it e8 o9 (hq_c5 h_l_f h_l_s (show -1 ≤ (l_h).toInt by omega) (show (l_h).toInt ≤ 29 by omega)) rfl
  refine lv_aload_n hx hb dX5_begin_15 rfl (lv_at hl 0 rfl) ?_
  refine lv_iconst (v := -1) hx hb dX5_begin_16 (by decide) ?_
  refine hp_put hx hb hts hown hZ e8 fp_X5_33 rfl rfl (Nat.le_of_ble_eq_true rfl) dX5_begin_17 (fun V10 _ _ e11 o12 hZ => ?_)
  have e11 : V10 (it) = some (.inr (5, [.int (k), .int (-1), .int (-1), .int (-1), .int (l_h), .int (l_ht), .int (l_pa), .int (l_la), .ref (l_f), .ref (l_s)])) := e11
  have hP := hP.put h_it e11 o12 (hq_c5 h_l_f h_l_s (show -1 ≤ (l_h).toInt by omega) (show (l_h).toInt ≤ 29 by omega)) rfl
  refine lv_aload_n hx hb dX5_begin_20 rfl (lv_at hl 0 rfl) ?_
  refine lv_iconst (v := -1) hx hb dX5_begin_21 (by decide) ?_
  refine hp_put hx hb hts hown hZ e11 fp_X5_36 rfl rfl (Nat.le_of_ble_eq_true rfl) dX5_begin_22 (fun V13 _ _ e14 o15 hZ => ?_)
  have e14 : V13 (it) = some (.inr (5, [.int (k), .int (-1), .int (-1), .int (-1), .int (-1), .int (l_ht), .int (l_pa), .int (l_la), .ref (l_f), .ref (l_s)])) := e14
  have hP := hP.put h_it e14 o15 (hq_c5 h_l_f h_l_s (show -1 ≤ (-1 : Int) by omega) (show (-1 : Int) ≤ 29 by omega)) rfl
  refine lv_aload_n hx hb dX5_begin_25 rfl (lv_at hl 0 rfl) ?_
  refine lv_iconst (v := -1) hx hb dX5_begin_26 (by decide) ?_
  refine hp_put hx hb hts hown hZ e14 fp_X5_39 rfl rfl (Nat.le_of_ble_eq_true rfl) dX5_begin_27 (fun V16 _ _ e17 o18 hZ => ?_)
  have e17 : V16 (it) = some (.inr (5, [.int (k), .int (-1), .int (-1), .int (-1), .int (-1), .int (-1), .int (l_pa), .int (l_la), .ref (l_f), .ref (l_s)])) := e17
  have hP := hP.put h_it e17 o18 (hq_c5 h_l_f h_l_s (show -1 ≤ (-1 : Int) by omega) (show (-1 : Int) ≤ 29 by omega)) rfl
  refine lv_aload_n hx hb dX5_begin_30 rfl (lv_at hl 0 rfl) ?_
  refine lv_iconst (v := -1) hx hb dX5_begin_31 (by decide) ?_
  refine hp_put hx hb hts hown hZ e17 fp_X5_42 rfl rfl (Nat.le_of_ble_eq_true rfl) dX5_begin_32 (fun V19 _ _ e20 o21 hZ => ?_)
  have e20 : V19 (it) = some (.inr (5, [.int (k), .int (-1), .int (-1), .int (-1), .int (-1), .int (-1), .int (-1), .int (l_la), .ref (l_f), .ref (l_s)])) := e20
  have hP := hP.put h_it e20 o21 (hq_c5 h_l_f h_l_s (show -1 ≤ (-1 : Int) by omega) (show (-1 : Int) ≤ 29 by omega)) rfl
  refine lv_aload_n hx hb dX5_begin_35 rfl (lv_at hl 0 rfl) ?_
  refine lv_iconst (v := 0) hx hb dX5_begin_36 (by decide) ?_
  refine hp_put hx hb hts hown hZ e20 fp_X5_45 rfl rfl (Nat.le_of_ble_eq_true rfl) dX5_begin_37 (fun V22 _ _ e23 o24 hZ => ?_)
  have e23 : V22 (it) = some (.inr (5, [.int (k), .int (-1), .int (-1), .int (-1), .int (-1), .int (-1), .int (-1), .int (0), .ref (l_f), .ref (l_s)])) := e23
  have hP := hP.put h_it e23 o24 (hq_c5 h_l_f h_l_s (show -1 ≤ (-1 : Int) by omega) (show (-1 : Int) ≤ 29 by omega)) rfl
  refine lv_aload_n hx hb dX5_begin_40 rfl (lv_at hl 0 rfl) ?_
  refine hp_get (v := .ref (l_f)) hx hb hts hown hZ e23 fl_X5_14 rfl dX5_begin_41 ?_
  obtain ⟨u32, z33, eV31, hu34, h35, h36, h37⟩ := hq_o0 hP.1 h_l_f
  refine hp_callv (hp_runV (As := []) (rest := []) hx hb hml hown hts (t_X9_clear l D cs B G (fun g => g.1 == 3) V22 n hP.1 _ (l_f) h_l_f rfl) hZ eV31 cv_X5_49 rfl rfl ⟨Nat.le_of_ble_eq_true rfl, Nat.le_of_ble_eq_true rfl⟩ rfl hl.1 rfl (Nat.le_of_ble_eq_true rfl) dX5_begin_44 ⟨(Nat.le_of_ble_eq_true rfl), (Nat.le_of_ble_eq_true rfl)⟩) hZ (fun V25 n26 _ _ hw27 hZ => ?_)
  obtain ⟨rfl, hq29⟩ := hw27
  have hP := hP.trans hq29 (by intro g h; simp_all)
  refine lv_aload_n hx hb dX5_begin_47 rfl (lv_at hl 0 rfl) ?_
  have fx38 : V25 (it) = some (.inr (5, [.int (k), .int (-1), .int (-1), .int (-1), .int (-1), .int (-1), .int (-1), .int (0), .ref (l_f), .ref (l_s)])) := (hq29.2 (it) _ h_it rfl).trans (e23)
  refine hp_get (v := .ref (l_s)) hx hb hts hown hZ fx38 fl_X5_20 rfl dX5_begin_48 ?_
  obtain ⟨u46, z47, eV45, hu48, h49, h50, h51⟩ := hq_o0 hP.1 h_l_s
  refine hp_callv (hp_runV (As := []) (rest := []) hx hb hml hown hts (t_X9_clear l D cs B G (fun g => g.1 == 3) V25 n hP.1 _ (l_s) h_l_s rfl) hZ eV45 cv_X5_49 rfl rfl ⟨Nat.le_of_ble_eq_true rfl, Nat.le_of_ble_eq_true rfl⟩ rfl hl.1 rfl (Nat.le_of_ble_eq_true rfl) dX5_begin_51 ⟨(Nat.le_of_ble_eq_true rfl), (Nat.le_of_ble_eq_true rfl)⟩) hZ (fun V39 n40 _ _ hw41 hZ => ?_)
  obtain ⟨rfl, hq43⟩ := hw41
  have hP := hP.trans hq43 (by intro g h; simp_all)
  have fx52 : V39 (it) = some (.inr (5, [.int (k), .int (-1), .int (-1), .int (-1), .int (-1), .int (-1), .int (-1), .int (0), .ref (l_f), .ref (l_s)])) := (hq43.2 (it) _ h_it rfl).trans (fx38)
  have hl53 : (-1 : Int32).toInt = -1 := by decide
  have hl54 : (-1 : Int32).toInt = -1 := by decide
  have hl55 : (-1 : Int32).toInt = -1 := by decide
  have hl56 : (-1 : Int32).toInt = -1 := by decide
  have hl57 : (-1 : Int32).toInt = -1 := by decide
  have hl58 : (-1 : Int32).toInt = -1 := by decide
  have hl59 : (0 : Int32).toInt = 0 := by decide
  exact hp_vret hx hb hr hlocks hZ ⟨rfl, hP, ⟨k, -1, -1, -1, -1, -1, -1, 0, fx52, by omega, by omega⟩, (fun x9 hx9 hne9 => (hq43.2 x9 _ hx9 rfl).trans ((hq29.2 x9 _ hx9 rfl).trans ((o24 x9 (hne9)).trans ((o21 x9 (hne9)).trans ((o18 x9 (hne9)).trans ((o15 x9 (hne9)).trans ((o12 x9 (hne9)).trans ((o9 x9 (hne9)).trans ((o6 x9 (hne9)).trans (o3 x9 (hne9)))))))))))⟩ dX5_begin_54

set_option maxHeartbeats 4000000 in
set_option maxRecDepth 100000 in
theorem t_X0_clear_1 (l : Launch) (D : va_G) (cs : Nat → ClassId) (B : Nat) (G : hq_G) (V : hp_V) (n : Nat) (hI : hq_I cs G V) (u : Nat) (h_u : G u = some (6, 1, 0, 0)) {b_cn b_vn b_vc b_ln : Nat} {b_cs b_vs b_ls : Int32} (ho_u : V u = some (.inr (0, [.ref (b_cn), .int (b_cs), .ref (b_vn), .ref (b_vc), .int (b_vs), .ref (b_ln), .int (b_ls)]))) (h_b_cn : G b_cn = some (4, 7, 6, 0)) (h_b_vn : G b_vn = some (4, 7, 30, 0)) (h_b_vc : G b_vc = some (2, 3, 30, 0)) (h_b_ln : G b_ln = some (4, 6, 60, 1)) (hi_u0 : 0 ≤ b_cs.toInt ∧ b_cs.toInt ≤ 6) (hi_u1 : 0 ≤ b_vs.toInt ∧ b_vs.toInt ≤ 30) (hi_u2 : 0 ≤ b_ls.toInt ∧ b_ls.toInt ≤ 60) : hp_M l yX0_clear cX0_clear 1 none ({ frames := 1, cells := 0, slots := 0, locals := 21 }) D cs B V n [.ref (u)] (hp_QV D cs B (fun V' n' => n = n' ∧ hq_P cs G (fun g => (g.1 == 21 && g.2 == 1)) V V' ∧ (∃ (b_cs1 : Int32) (b_vs1 : Int32) (b_ls1 : Int32), V' u = some (.inr (0, [.ref (b_cn), .int (b_cs1), .ref (b_vn), .ref (b_vc), .int (b_vs1), .ref (b_ln), .int (b_ls1)])) ∧ (0 ≤ b_cs1.toInt ∧ b_cs1.toInt ≤ 6) ∧ (0 ≤ b_vs1.toInt ∧ b_vs1.toInt ≤ 30) ∧ (0 ≤ b_ls1.toInt ∧ b_ls1.toInt ≤ 60) ∧ (b_ls1.toInt = 0)))) 0 0 := by
  refine hp_walk (R0 := RX0) (by decide) rfl ?_ (Nat.le_of_ble_eq_true rfl)
  intro p e s m below meth c ls hx hb hr hts hown hlocks hin hml hZ hl
  have hP : hq_P cs G (fun g => (g.1 == 21 && g.2 == 1)) V V := hq_P.rf hI
  have hl : lv_has ls 1 [(0, .ref (u))] := hl
  have hb_b_cs := hq_rng b_cs
  have hb_b_vs := hq_rng b_vs
  have hb_b_ls := hq_rng b_ls
  refine lv_aload_n hx hb dX0_clear_0 rfl (lv_at hl 0 rfl) ?_
  refine lv_iconst (v := 0) hx hb dX0_clear_1 (by decide) ?_
  refine hp_put hx hb hts hown hZ ho_u fp_X0_34 rfl rfl (Nat.le_of_ble_eq_true rfl) dX0_clear_2 (fun V1 _ _ e2 o3 hZ => ?_)
  have e2 : V1 (u) = some (.inr (0, [.ref (b_cn), .int (0), .ref (b_vn), .ref (b_vc), .int (b_vs), .ref (b_ln), .int (b_ls)])) := e2
  have hP := hP.put h_u e2 o3 (hq_c6 h_b_cn h_b_vn h_b_vc h_b_ln (show 0 ≤ (0 : Int) ∧ (0 : Int) ≤ 6 by omega) (show 0 ≤ (b_vs).toInt ∧ (b_vs).toInt ≤ 30 by omega) (show 0 ≤ (b_ls).toInt ∧ (b_ls).toInt ≤ 60 by omega)) rfl
  refine lv_aload_n hx hb dX0_clear_5 rfl (lv_at hl 0 rfl) ?_
  refine lv_iconst (v := 0) hx hb dX0_clear_6 (by decide) ?_
  refine hp_put hx hb hts hown hZ e2 fp_X0_38 rfl rfl (Nat.le_of_ble_eq_true rfl) dX0_clear_7 (fun V4 _ _ e5 o6 hZ => ?_)
  have e5 : V4 (u) = some (.inr (0, [.ref (b_cn), .int (0), .ref (b_vn), .ref (b_vc), .int (0), .ref (b_ln), .int (b_ls)])) := e5
  have hP := hP.put h_u e5 o6 (hq_c6 h_b_cn h_b_vn h_b_vc h_b_ln (show 0 ≤ (0 : Int) ∧ (0 : Int) ≤ 6 by omega) (show 0 ≤ (0 : Int) ∧ (0 : Int) ≤ 30 by omega) (show 0 ≤ (b_ls).toInt ∧ (b_ls).toInt ≤ 60 by omega)) rfl
  refine lv_aload_n hx hb dX0_clear_10 rfl (lv_at hl 0 rfl) ?_
  refine lv_iconst (v := 0) hx hb dX0_clear_11 (by decide) ?_
  refine hp_put hx hb hts hown hZ e5 fp_X0_41 rfl rfl (Nat.le_of_ble_eq_true rfl) dX0_clear_12 (fun V7 _ _ e8 o9 hZ => ?_)
  have e8 : V7 (u) = some (.inr (0, [.ref (b_cn), .int (0), .ref (b_vn), .ref (b_vc), .int (0), .ref (b_ln), .int (0)])) := e8
  have hP := hP.put h_u e8 o9 (hq_c6 h_b_cn h_b_vn h_b_vc h_b_ln (show 0 ≤ (0 : Int) ∧ (0 : Int) ≤ 6 by omega) (show 0 ≤ (0 : Int) ∧ (0 : Int) ≤ 30 by omega) (show 0 ≤ (0 : Int) ∧ (0 : Int) ≤ 60 by omega)) rfl
  have hl10 : (0 : Int32).toInt = 0 := by decide
  have hl11 : (0 : Int32).toInt = 0 := by decide
  have hl12 : (0 : Int32).toInt = 0 := by decide
  exact hp_vret hx hb hr hlocks hZ ⟨rfl, hP, ⟨0, 0, 0, e8, by omega, by omega, by omega, by omega⟩⟩ dX0_clear_15

set_option maxHeartbeats 4000000 in
set_option maxRecDepth 100000 in
theorem t_X7_refuse_1 (l : Launch) (D : va_G) (cs : Nat → ClassId) (B : Nat) (G : hq_G) (V : hp_V) (n : Nat) (hI : hq_I cs G V) (t : Nat) (h_t : G t = some (10, 0, 0, 0)) (k : Int32) {q_tx q_ou q_nm : Nat} {q_fk q_fp q_nx q_tk q_st : Int32} (ho_t : V t = some (.inr (7, [.int (q_fk), .int (q_fp), .ref (q_tx), .ref (q_ou), .int (q_nx), .int (q_tk), .int (q_st), .ref (q_nm)]))) (h_q_tx : G q_tx = some (0, 4000, 0, 0)) (h_q_ou : G q_ou = some (6, 1, 0, 0)) (h_q_nm : G q_nm = some (0, 12, 0, 0)) : hp_M l yX7_refuse cX7_refuse 2 (some .boolean) ({ frames := 1, cells := 0, slots := 0, locals := 21 }) D cs B V n [.ref (t), .int (k)] (hp_QI D cs B (fun r V' n' => n = n' ∧ hq_P cs G (fun g => g.1 == 4) V V' ∧ (∃ (q_fk1 : Int32) (q_fp1 : Int32), V' t = some (.inr (7, [.int (q_fk1), .int (q_fp1), .ref (q_tx), .ref (q_ou), .int (q_nx), .int (q_tk), .int (q_st), .ref (q_nm)]))) ∧ (r.toInt = 0))) 0 0 := by
  refine hp_walk (R0 := RX7) (by decide) rfl ?_ (Nat.le_of_ble_eq_true rfl)
  intro p e s m below meth c ls hx hb hr hts hown hlocks hin hml hZ hl
  have hP : hq_P cs G (fun g => g.1 == 4) V V := hq_P.rf hI
  have hl : lv_has ls 2 [(0, .ref (t)), (1, .int (k))] := hl
  have hb_k := hq_rng k
  have hb_q_fk := hq_rng q_fk
  have hb_q_fp := hq_rng q_fp
  have hb_q_nx := hq_rng q_nx
  have hb_q_tk := hq_rng q_tk
  have hb_q_st := hq_rng q_st
  refine lv_aload_n hx hb dX7_refuse_0 rfl (lv_at hl 0 rfl) ?_
  refine lv_iload_n hx hb dX7_refuse_1 rfl (lv_at hl 1 rfl) ?_
  refine hp_put hx hb hts hown hZ ho_t fp_X7_9 rfl rfl (Nat.le_of_ble_eq_true rfl) dX7_refuse_2 (fun V1 _ _ e2 o3 hZ => ?_)
  have e2 : V1 (t) = some (.inr (7, [.int (k), .int (q_fp), .ref (q_tx), .ref (q_ou), .int (q_nx), .int (q_tk), .int (q_st), .ref (q_nm)])) := e2
  have hP := hP.put h_t e2 o3 (trivial) rfl
  refine lv_aload_n hx hb dX7_refuse_5 rfl (lv_at hl 0 rfl) ?_
  refine lv_aload_n hx hb dX7_refuse_6 rfl (lv_at hl 0 rfl) ?_
  refine hp_get (v := .int (q_st)) hx hb hts hown hZ e2 fl_X7_174 rfl dX7_refuse_7 ?_
  refine hp_put hx hb hts hown hZ e2 fp_X7_15 rfl rfl (Nat.le_of_ble_eq_true rfl) dX7_refuse_10 (fun V4 _ _ e5 o6 hZ => ?_)
  have e5 : V4 (t) = some (.inr (7, [.int (k), .int (q_st), .ref (q_tx), .ref (q_ou), .int (q_nx), .int (q_tk), .int (q_st), .ref (q_nm)])) := e5
  have hP := hP.put h_t e5 o6 (trivial) rfl
  refine lv_iconst (v := 0) hx hb dX7_refuse_13 (by decide) ?_
  exact hp_zret hx hb hr rfl hlocks hZ ⟨rfl, hP, ⟨k, q_st, e5⟩, by decide⟩ dX7_refuse_14

set_option maxHeartbeats 4000000 in
set_option maxRecDepth 100000 in
theorem t_X7_runEnd_1 (l : Launch) (D : va_G) (cs : Nat → ClassId) (B : Nat) (G : hq_G) (V : hp_V) (n : Nat) (hI : hq_I cs G V) (t : Nat) (h_t : G t = some (10, 0, 0, 0)) (k : Int32) (lo : Int32) (hi : Int32) {q_tx q_ou q_nm : Nat} {q_fk q_fp q_nx q_tk q_st : Int32} (ho_t : V t = some (.inr (7, [.int (q_fk), .int (q_fp), .ref (q_tx), .ref (q_ou), .int (q_nx), .int (q_tk), .int (q_st), .ref (q_nm)]))) (h_q_tx : G q_tx = some (0, 4000, 0, 0)) (h_q_ou : G q_ou = some (6, 1, 0, 0)) (h_q_nm : G q_nm = some (0, 12, 0, 0)) (hk0 : 0 ≤ k.toInt) (hk1 : k.toInt ≤ 4001) : hp_M l yX7_runEnd cX7_runEnd 5 (some .int) ({ frames := 2, cells := 0, slots := 0, locals := 42 }) D cs B V n [.ref (t), .int (k), .int (lo), .int (hi)] (hp_QI D cs B (fun r V' n' => n = n' ∧ hq_P cs G (fun _ => false) V V' ∧ (V' t = some (.inr (7, [.int (q_fk), .int (q_fp), .ref (q_tx), .ref (q_ou), .int (q_nx), .int (q_tk), .int (q_st), .ref (q_nm)]))) ∧ (k.toInt ≤ r.toInt ∧ (r.toInt ≤ k.toInt ∨ r.toInt ≤ 4000)))) 0 0 := by
  refine hp_walk (R0 := RX7) (by decide) rfl ?_ (Nat.le_of_ble_eq_true rfl)
  intro p e s m below meth c ls hx hb hr hts hown hlocks hin hml hZ hl
  have hP : hq_P cs G (fun _ => false) V V := hq_P.rf hI
  have hl : lv_has ls 5 [(0, .ref (t)), (1, .int (k)), (2, .int (lo)), (3, .int (hi))] := hl
  have hb_k := hq_rng k
  have hb_lo := hq_rng lo
  have hb_hi := hq_rng hi
  have hb_q_fk := hq_rng q_fk
  have hb_q_fp := hq_rng q_fp
  have hb_q_nx := hq_rng q_nx
  have hb_q_tk := hq_rng q_tk
  have hb_q_st := hq_rng q_st
  refine lv_iload_n hx hb dX7_runEnd_0 rfl (lv_at hl 1 rfl) ?_
  refine lv_istore (lv' := [(4, .int (k)), (0, .ref (t)), (1, .int (k)), (2, .int (lo)), (3, .int (hi))]) hx hb dX7_runEnd_1 hl (by decide) rfl (fun ls hl => ?_)
  suffices lp3 : ∀ (k9 : Nat) (V9 : hp_V) (H9 : Heap) (locs9 : List Loc) (ls : Array Slot) (i : Int32), (5000 - i.toInt).toNat = k9 → hp_Z D cs B s V9 H9 n locs9 → hq_P cs G (fun _ => false) V V9 → k.toInt ≤ i.toInt → i.toInt ≤ k.toInt ∨ i.toInt ≤ 4000 → lv_has ls 5 [(4, .int (i)), (0, .ref (t)), (1, .int (k)), (2, .int (lo)), (3, .int (hi))] → W p l e ({ frames := 2, cells := 0, slots := 0, locals := 42 }) s m ([.ref (t), .int (k), .int (lo), .int (hi)] : List Value).toArray below meth c H9 locs9 0 0 (MQ below (hp_QI D cs B (fun r V' n' => n = n' ∧ hq_P cs G (fun _ => false) V V' ∧ (V' t = some (.inr (7, [.int (q_fk), .int (q_fp), .ref (q_tx), .ref (q_ou), .int (q_nx), .int (q_tk), .int (q_st), .ref (q_nm)]))) ∧ (k.toInt ≤ r.toInt ∧ (r.toInt ≤ k.toInt ∨ r.toInt ≤ 4000)))) ([.ref (t), .int (k), .int (lo), .int (hi)] : List Value).toArray s 0 0 (hp_F B)) (F0 m 3 ls []) from lp3 _ _ _ _ ls (k) rfl hZ hP (by omega) (by omega) (lv_sub hl [0, 1, 2, 3, 4] rfl)
  intro k9
  induction k9 using Nat.strongRecOn with
  | _ k9 ih3 =>
    intro V9 H9 locs9 ls i  hk3 hZ hP  hv1 hv2 hl
    have hb_i := hq_rng i
    have hP_3 := hP
    refine lv_iload hx hb dX7_runEnd_3 (lv_at hl 0 rfl) ?_
    refine lv_aload_n hx hb dX7_runEnd_5 rfl (lv_at hl 1 rfl) ?_
    have fx3 : V9 (t) = some (.inr (7, [.int (q_fk), .int (q_fp), .ref (q_tx), .ref (q_ou), .int (q_nx), .int (q_tk), .int (q_st), .ref (q_nm)])) := (hP_3.2 (t) _ h_t rfl).trans (ho_t)
    refine hp_get (v := .ref (q_tx)) hx hb hts hown hZ fx3 fl_X7_27 rfl dX7_runEnd_6 ?_
    obtain ⟨u5, z6, eV4, hu7, h8, h9, h10⟩ := hq_o0 hP.1 h_q_tx
    refine hp_get (v := .int (z6)) hx hb hts hown hZ eV4 fl_X7_192 rfl dX7_runEnd_9 ?_
    refine lv_icmp_ge (tgt := 47) hx hb dX7_runEnd_12 (by decide) (fun c11 => ?_) (fun c11 => ?_)
    · have c11 : (z6).toInt ≤ (i).toInt := hq_lei.mp c11
      refine lv_iload hx hb dX7_runEnd_47 (lv_at hl 0 rfl) ?_
      exact hp_iret hx hb hr hlocks hZ ⟨rfl, hP, fx3, ⟨by omega, by omega⟩⟩ dX7_runEnd_49
    · have c11 : ¬ (z6).toInt ≤ (i).toInt := fun h9 => c11 (hq_lei.mpr h9)
      refine lv_aload_n hx hb dX7_runEnd_15 rfl (lv_at hl 1 rfl) ?_
      refine hp_get (v := .ref (q_tx)) hx hb hts hown hZ fx3 fl_X7_27 rfl dX7_runEnd_16 ?_
      refine lv_iload hx hb dX7_runEnd_19 (lv_at hl 0 rfl) ?_
      refine hp_calli (hp_runV (As := [.int (i)]) (rest := []) hx hb hml hown hts (t_X9_at l D cs B G  V9 n hP.1 _ (q_tx) h_q_tx (i) ) hZ eV4 cv_X7_182 rfl rfl ⟨Nat.le_of_ble_eq_true rfl, Nat.le_of_ble_eq_true rfl⟩ rfl hl.1 rfl (Nat.le_of_ble_eq_true rfl) dX7_runEnd_21 ⟨(Nat.le_of_ble_eq_true rfl), (Nat.le_of_ble_eq_true rfl)⟩) hZ (fun r15 V12 n13 _ _ hw14 hZ => ?_)
      obtain ⟨rfl, hq16, hr17⟩ := hw14
      have hP := hP.trans hq16 (fun _ _ => rfl)
      have b18 := hq_rng r15
      refine lv_iload_n hx hb dX7_runEnd_24 rfl (lv_at hl 3 rfl) ?_
      refine lv_icmp_lt (tgt := 47) hx hb dX7_runEnd_25 (by decide) (fun c19 => ?_) (fun c19 => ?_)
      · have c19 : (r15).toInt < (lo).toInt := hq_lti.mp c19
        refine lv_iload hx hb dX7_runEnd_47 (lv_at hl 0 rfl) ?_
        have fx20 : V12 (t) = some (.inr (7, [.int (q_fk), .int (q_fp), .ref (q_tx), .ref (q_ou), .int (q_nx), .int (q_tk), .int (q_st), .ref (q_nm)])) := (hq16.2 (t) _ h_t rfl).trans (fx3)
        exact hp_iret hx hb hr hlocks hZ ⟨rfl, hP, fx20, ⟨by omega, by omega⟩⟩ dX7_runEnd_49
      · have c19 : ¬ (r15).toInt < (lo).toInt := fun h9 => c19 (hq_lti.mpr h9)
        refine lv_aload_n hx hb dX7_runEnd_28 rfl (lv_at hl 1 rfl) ?_
        have fx21 : V12 (t) = some (.inr (7, [.int (q_fk), .int (q_fp), .ref (q_tx), .ref (q_ou), .int (q_nx), .int (q_tk), .int (q_st), .ref (q_nm)])) := (hq16.2 (t) _ h_t rfl).trans (fx3)
        refine hp_get (v := .ref (q_tx)) hx hb hts hown hZ fx21 fl_X7_27 rfl dX7_runEnd_29 ?_
        refine lv_iload hx hb dX7_runEnd_32 (lv_at hl 0 rfl) ?_
        have fx28 : V12 (q_tx) = some (.inr (9, [.ref (u5), .int (z6)])) := (hq16.2 (q_tx) _ h_q_tx rfl).trans (eV4)
        refine hp_calli (hp_runV (As := [.int (i)]) (rest := []) hx hb hml hown hts (t_X9_at l D cs B G  V12 n hP.1 _ (q_tx) h_q_tx (i) ) hZ fx28 cv_X7_182 rfl rfl ⟨Nat.le_of_ble_eq_true rfl, Nat.le_of_ble_eq_true rfl⟩ rfl hl.1 rfl (Nat.le_of_ble_eq_true rfl) dX7_runEnd_34 ⟨(Nat.le_of_ble_eq_true rfl), (Nat.le_of_ble_eq_true rfl)⟩) hZ (fun r25 V22 n23 _ _ hw24 hZ => ?_)
        obtain ⟨rfl, hq26, hr27⟩ := hw24
        have hP := hP.trans hq26 (fun _ _ => rfl)
        have b29 := hq_rng r25
        refine lv_iload_n hx hb dX7_runEnd_37 rfl (lv_at hl 4 rfl) ?_
        refine lv_icmp_gt (tgt := 47) hx hb dX7_runEnd_38 (by decide) (fun c30 => ?_) (fun c30 => ?_)
        · have c30 : (hi).toInt < (r25).toInt := hq_lti.mp c30
          refine lv_iload hx hb dX7_runEnd_47 (lv_at hl 0 rfl) ?_
          have fx31 : V22 (t) = some (.inr (7, [.int (q_fk), .int (q_fp), .ref (q_tx), .ref (q_ou), .int (q_nx), .int (q_tk), .int (q_st), .ref (q_nm)])) := (hq26.2 (t) _ h_t rfl).trans (fx21)
          exact hp_iret hx hb hr hlocks hZ ⟨rfl, hP, fx31, ⟨by omega, by omega⟩⟩ dX7_runEnd_49
        · have c30 : ¬ (hi).toInt < (r25).toInt := fun h9 => c30 (hq_lti.mpr h9)
          obtain ⟨y32, ey33⟩ : ∃ y : Int32, y = i + (1) := ⟨_, rfl⟩
          obtain ⟨k34, hk35, b36, b37⟩ := hq_add (i) (1)
          rw [← ey33] at hk35 b36 b37
          have hk35 : (y32).toInt = (i).toInt + (1) + k34 * 4294967296 := hk35
          refine lv_iinc (v := y32) (lv' := [(4, .int (y32)), (0, .ref (t)), (1, .int (k)), (2, .int (lo)), (3, .int (hi))]) hx hb dX7_runEnd_41 hl (k := 0) rfl (by rw [ey33]; rfl) (by decide) rfl (fun ls hl => ?_)
          refine lv_goto (tgt := 3) hx hb dX7_runEnd_44 (by decide) ?_
          exact ih3 _ (by omega) _ _ _ ls (y32) rfl hZ hP (by omega) (by omega) (lv_sub hl [0, 1, 2, 3, 4] rfl)

set_option maxHeartbeats 4000000 in
set_option maxRecDepth 100000 in
theorem t_X7_wordNumber_1 (l : Launch) (D : va_G) (cs : Nat → ClassId) (B : Nat) (G : hq_G) (V : hp_V) (n : Nat) (hI : hq_I cs G V) (t : Nat) (h_t : G t = some (10, 0, 0, 0)) {q_tx q_ou q_nm : Nat} {q_fk q_fp q_nx q_tk q_st : Int32} (ho_t : V t = some (.inr (7, [.int (q_fk), .int (q_fp), .ref (q_tx), .ref (q_ou), .int (q_nx), .int (q_tk), .int (q_st), .ref (q_nm)]))) (h_q_tx : G q_tx = some (0, 4000, 0, 0)) (h_q_ou : G q_ou = some (6, 1, 0, 0)) (h_q_nm : G q_nm = some (0, 12, 0, 0)) : hp_M l yX7_wordNumber cX7_wordNumber 5 (some .int) ({ frames := 5, cells := 0, slots := 0, locals := 106 }) D cs B V n [.ref (t)] (hp_QI D cs B (fun r V' n' => n = n' ∧ hq_P cs G (fun _ => false) V V' ∧ (V' t = some (.inr (7, [.int (q_fk), .int (q_fp), .ref (q_tx), .ref (q_ou), .int (q_nx), .int (q_tk), .int (q_st), .ref (q_nm)]))) ∧ True)) 0 0 := by
  refine hp_walk (R0 := RX7) (by decide) rfl ?_ (Nat.le_of_ble_eq_true rfl)
  intro p e s m below meth c ls hx hb hr hts hown hlocks hin hml hZ hl
  have hP : hq_P cs G (fun _ => false) V V := hq_P.rf hI
  have hl : lv_has ls 5 [(0, .ref (t))] := hl
  have hb_q_fk := hq_rng q_fk
  have hb_q_fp := hq_rng q_fp
  have hb_q_nx := hq_rng q_nx
  have hb_q_tk := hq_rng q_tk
  have hb_q_st := hq_rng q_st
  refine lv_iconst (v := 0) hx hb dX7_wordNumber_0 (by decide) ?_
  refine lv_istore_n (lv' := [(1, .int (0)), (0, .ref (t))]) hx hb dX7_wordNumber_1 rfl hl (by decide) rfl (fun ls hl => ?_)
  refine lv_aload_n hx hb dX7_wordNumber_2 rfl (lv_at hl 1 rfl) ?_
  refine hp_get (v := .int (q_st)) hx hb hts hown hZ ho_t fl_X7_174 rfl dX7_wordNumber_3 ?_
  refine lv_istore_n (lv' := [(2, .int (q_st)), (1, .int (0)), (0, .ref (t))]) hx hb dX7_wordNumber_6 rfl hl (by decide) rfl (fun ls hl => ?_)
  refine lv_iconst (v := 1) hx hb dX7_wordNumber_7 (by decide) ?_
  refine lv_istore_n (lv' := [(3, .int (1)), (2, .int (q_st)), (1, .int (0)), (0, .ref (t))]) hx hb dX7_wordNumber_8 rfl hl (by decide) rfl (fun ls hl => ?_)
  refine lv_iconst (v := 0) hx hb dX7_wordNumber_9 (by decide) ?_
  refine lv_istore (lv' := [(4, .int (0)), (3, .int (1)), (2, .int (q_st)), (1, .int (0)), (0, .ref (t))]) hx hb dX7_wordNumber_10 hl (by decide) rfl (fun ls hl => ?_)
  have hl1 : (0 : Int32).toInt = 0 := by decide
  have hl2 : (1 : Int32).toInt = 1 := by decide
  have hl3 : (0 : Int32).toInt = 0 := by decide
  suffices lp12 : ∀ (k9 : Nat) (V9 : hp_V) (H9 : Heap) (locs9 : List Loc) (ls : Array Slot) (no : Int32) (i : Int32) (sa : Int32) (k : Int32), (100 - k.toInt).toNat = k9 → hp_Z D cs B s V9 H9 n locs9 → hq_P cs G (fun _ => false) V V9 → 0 ≤ k.toInt → k.toInt ≤ 89 → lv_has ls 5 [(4, .int (k)), (3, .int (sa)), (2, .int (i)), (1, .int (no)), (0, .ref (t))] → W p l e ({ frames := 5, cells := 0, slots := 0, locals := 106 }) s m ([.ref (t)] : List Value).toArray below meth c H9 locs9 0 0 (MQ below (hp_QI D cs B (fun r V' n' => n = n' ∧ hq_P cs G (fun _ => false) V V' ∧ (V' t = some (.inr (7, [.int (q_fk), .int (q_fp), .ref (q_tx), .ref (q_ou), .int (q_nx), .int (q_tk), .int (q_st), .ref (q_nm)]))) ∧ True)) ([.ref (t)] : List Value).toArray s 0 0 (hp_F B)) (F0 m 12 ls []) from lp12 _ _ _ _ ls (0) (q_st) (1) (0) rfl hZ hP (by omega) (by omega) (lv_sub hl [0, 1, 2, 3, 4] rfl)
  intro k9
  induction k9 using Nat.strongRecOn with
  | _ k9 ih12 =>
    intro V9 H9 locs9 ls no i sa k  hk12 hZ hP  hv4 hv5 hl
    have hb_no := hq_rng no
    have hb_i := hq_rng i
    have hb_sa := hq_rng sa
    have hb_k := hq_rng k
    have hP_12 := hP
    refine lv_iload hx hb dX7_wordNumber_12 (lv_at hl 0 rfl) ?_
    refine va_ldcS (tx := (hp_so.getD 0 ("", 0, "")).2.2) (q := cs (100 + 0)) hx hb hown (hZ.2.2.2.2.2.2.2.2.2.2 0 (by decide)) dX7_wordNumber_14 ?_
    refine hp_calli (hp_runVS (As := []) (rest := [.int (k)]) hx hb hml hown hts (s_length l D cs B V9 n 0 (by decide)) hZ (by decide) rfl cv_X7_205 rfl rfl ⟨Nat.le_of_ble_eq_true rfl, Nat.le_of_ble_eq_true rfl⟩ rfl hl.1 rfl (Nat.le_of_ble_eq_true rfl) dX7_wordNumber_16 ⟨Nat.le_of_ble_eq_true rfl, Nat.le_of_ble_eq_true rfl⟩) hZ (fun r9 V6 n7 _ _ hw8 hZ => ?_)
    obtain ⟨rfl, rfl, hr10⟩ := hw8
    have b11 := hq_rng r9
    have b12 : r9.toInt = (hp_sl.getD 0 0 : Nat) := by rw [hr10]; exact hs_ofn (by have h9 := (hs_all 0 (by decide)).1; omega)
    have b13 : r9.toInt = 89 := by rw [hr10]; decide
    refine lv_icmp_ge (tgt := 106) hx hb dX7_wordNumber_19 (by decide) (fun c14 => ?_) (fun c14 => ?_)
    · have c14 : (r9).toInt ≤ (k).toInt := hq_lei.mp c14
      refine lv_bipush (v := 17) hx hb dX7_wordNumber_106 (by decide) ?_
      have fx15 : V9 (t) = some (.inr (7, [.int (q_fk), .int (q_fp), .ref (q_tx), .ref (q_ou), .int (q_nx), .int (q_tk), .int (q_st), .ref (q_nm)])) := (hP_12.2 (t) _ h_t rfl).trans (ho_t)
      exact hp_iret hx hb hr hlocks hZ ⟨rfl, hP, fx15, trivial⟩ dX7_wordNumber_108
    · have c14 : ¬ (r9).toInt ≤ (k).toInt := fun h9 => c14 (hq_lei.mpr h9)
      refine va_ldcS (tx := (hp_so.getD 0 ("", 0, "")).2.2) (q := cs (100 + 0)) hx hb hown (hZ.2.2.2.2.2.2.2.2.2.2 0 (by decide)) dX7_wordNumber_22 ?_
      refine lv_iload hx hb dX7_wordNumber_24 (lv_at hl 0 rfl) ?_
      have hsl : (hp_sl.getD 0 0 : Nat) = 89 := by decide
      refine hp_calli (hp_runVS (As := [.int (k)]) (rest := []) hx hb hml hown hts (s_charAt l D cs B V9 n 0 (by decide) (k) (by omega) (by omega)) hZ (by decide) rfl cv_X7_210 rfl rfl ⟨Nat.le_of_ble_eq_true rfl, Nat.le_of_ble_eq_true rfl⟩ rfl hl.1 rfl (Nat.le_of_ble_eq_true rfl) dX7_wordNumber_26 ⟨Nat.le_of_ble_eq_true rfl, Nat.le_of_ble_eq_true rfl⟩) hZ (fun r19 V16 n17 _ _ hw18 hZ => ?_)
      obtain ⟨rfl, rfl, hr20⟩ := hw18
      have b21 := hq_rng r19
      refine lv_bipush (v := 32) hx hb dX7_wordNumber_29 (by decide) ?_
      refine lv_icmp_eq (tgt := 76) hx hb dX7_wordNumber_31 (by decide) (fun c22 => ?_) (fun c22 => ?_)
      · have c22 : (r19).toInt = (32 : Int) := hq_eqi.mp c22
        refine lv_iload_n hx hb dX7_wordNumber_76 rfl (lv_at hl 1 rfl) ?_
        refine lv_if_eq (tgt := 90) hx hb dX7_wordNumber_77 (by decide) (fun c23 => ?_) (fun c23 => ?_)
        · have c23 : (sa).toInt = (0 : Int) := hq_eqi.mp c23
          obtain ⟨y24, ey25⟩ : ∃ y : Int32, y = no + (1) := ⟨_, rfl⟩
          obtain ⟨k26, hk27, b28, b29⟩ := hq_add (no) (1)
          rw [← ey25] at hk27 b28 b29
          have hk27 : (y24).toInt = (no).toInt + (1) + k26 * 4294967296 := hk27
          refine lv_iinc (v := y24) (lv' := [(1, .int (y24)), (4, .int (k)), (3, .int (sa)), (2, .int (i)), (0, .ref (t))]) hx hb dX7_wordNumber_90 hl (k := 3) rfl (by rw [ey25]; rfl) (by decide) rfl (fun ls hl => ?_)
          refine lv_aload_n hx hb dX7_wordNumber_93 rfl (lv_at hl 4 rfl) ?_
          have fx30 : V9 (t) = some (.inr (7, [.int (q_fk), .int (q_fp), .ref (q_tx), .ref (q_ou), .int (q_nx), .int (q_tk), .int (q_st), .ref (q_nm)])) := (hP_12.2 (t) _ h_t rfl).trans (ho_t)
          refine hp_get (v := .int (q_st)) hx hb hts hown hZ fx30 fl_X7_174 rfl dX7_wordNumber_94 ?_
          refine lv_istore_n (lv' := [(2, .int (q_st)), (1, .int (y24)), (4, .int (k)), (3, .int (sa)), (0, .ref (t))]) hx hb dX7_wordNumber_97 rfl hl (by decide) rfl (fun ls hl => ?_)
          refine lv_iconst (v := 1) hx hb dX7_wordNumber_98 (by decide) ?_
          refine lv_istore_n (lv' := [(3, .int (1)), (2, .int (q_st)), (1, .int (y24)), (4, .int (k)), (0, .ref (t))]) hx hb dX7_wordNumber_99 rfl hl (by decide) rfl (fun ls hl => ?_)
          obtain ⟨y31, ey32⟩ : ∃ y : Int32, y = k + (1) := ⟨_, rfl⟩
          obtain ⟨k33, hk34, b35, b36⟩ := hq_add (k) (1)
          rw [← ey32] at hk34 b35 b36
          have hk34 : (y31).toInt = (k).toInt + (1) + k33 * 4294967296 := hk34
          refine lv_iinc (v := y31) (lv' := [(4, .int (y31)), (3, .int (1)), (2, .int (q_st)), (1, .int (y24)), (0, .ref (t))]) hx hb dX7_wordNumber_100 hl (k := 3) rfl (by rw [ey32]; rfl) (by decide) rfl (fun ls hl => ?_)
          refine lv_goto (tgt := 12) hx hb dX7_wordNumber_103 (by decide) ?_
          exact ih12 _ (by omega) _ _ _ ls (y24) (q_st) (1) (y31) rfl hZ hP (by omega) (by omega) (lv_sub hl [0, 1, 2, 3, 4] rfl)
        · have c23 : ¬ (sa).toInt = (0 : Int) := fun h9 => c23 (hq_eqi.mpr h9)
          refine lv_iload_n hx hb dX7_wordNumber_80 rfl (lv_at hl 2 rfl) ?_
          refine lv_aload_n hx hb dX7_wordNumber_81 rfl (lv_at hl 4 rfl) ?_
          have fx37 : V9 (t) = some (.inr (7, [.int (q_fk), .int (q_fp), .ref (q_tx), .ref (q_ou), .int (q_nx), .int (q_tk), .int (q_st), .ref (q_nm)])) := (hP_12.2 (t) _ h_t rfl).trans (ho_t)
          refine hp_get (v := .int (q_nx)) hx hb hts hown hZ fx37 fl_X7_39 rfl dX7_wordNumber_82 ?_
          refine lv_icmp_ne (tgt := 90) hx hb dX7_wordNumber_85 (by decide) (fun c38 => ?_) (fun c38 => ?_)
          · have c38 : ¬ (i).toInt = (q_nx).toInt := fun h9 => c38 (hq_eqi.mpr h9)
            obtain ⟨y39, ey40⟩ : ∃ y : Int32, y = no + (1) := ⟨_, rfl⟩
            obtain ⟨k41, hk42, b43, b44⟩ := hq_add (no) (1)
            rw [← ey40] at hk42 b43 b44
            have hk42 : (y39).toInt = (no).toInt + (1) + k41 * 4294967296 := hk42
            refine lv_iinc (v := y39) (lv' := [(1, .int (y39)), (4, .int (k)), (3, .int (sa)), (2, .int (i)), (0, .ref (t))]) hx hb dX7_wordNumber_90 hl (k := 3) rfl (by rw [ey40]; rfl) (by decide) rfl (fun ls hl => ?_)
            refine lv_aload_n hx hb dX7_wordNumber_93 rfl (lv_at hl 4 rfl) ?_
            refine hp_get (v := .int (q_st)) hx hb hts hown hZ fx37 fl_X7_174 rfl dX7_wordNumber_94 ?_
            refine lv_istore_n (lv' := [(2, .int (q_st)), (1, .int (y39)), (4, .int (k)), (3, .int (sa)), (0, .ref (t))]) hx hb dX7_wordNumber_97 rfl hl (by decide) rfl (fun ls hl => ?_)
            refine lv_iconst (v := 1) hx hb dX7_wordNumber_98 (by decide) ?_
            refine lv_istore_n (lv' := [(3, .int (1)), (2, .int (q_st)), (1, .int (y39)), (4, .int (k)), (0, .ref (t))]) hx hb dX7_wordNumber_99 rfl hl (by decide) rfl (fun ls hl => ?_)
            obtain ⟨y45, ey46⟩ : ∃ y : Int32, y = k + (1) := ⟨_, rfl⟩
            obtain ⟨k47, hk48, b49, b50⟩ := hq_add (k) (1)
            rw [← ey46] at hk48 b49 b50
            have hk48 : (y45).toInt = (k).toInt + (1) + k47 * 4294967296 := hk48
            refine lv_iinc (v := y45) (lv' := [(4, .int (y45)), (3, .int (1)), (2, .int (q_st)), (1, .int (y39)), (0, .ref (t))]) hx hb dX7_wordNumber_100 hl (k := 3) rfl (by rw [ey46]; rfl) (by decide) rfl (fun ls hl => ?_)
            refine lv_goto (tgt := 12) hx hb dX7_wordNumber_103 (by decide) ?_
            exact ih12 _ (by omega) _ _ _ ls (y39) (q_st) (1) (y45) rfl hZ hP (by omega) (by omega) (lv_sub hl [0, 1, 2, 3, 4] rfl)
          · have c38 : (i).toInt = (q_nx).toInt := hq_eqi.mp c38
            refine lv_iload_n hx hb dX7_wordNumber_88 rfl (lv_at hl 3 rfl) ?_
            exact hp_iret hx hb hr hlocks hZ ⟨rfl, hP, fx37, trivial⟩ dX7_wordNumber_89
      · have c22 : ¬ (r19).toInt = (32 : Int) := fun h9 => c22 (hq_eqi.mpr h9)
        refine lv_iload_n hx hb dX7_wordNumber_34 rfl (lv_at hl 1 rfl) ?_
        refine lv_if_eq (tgt := 68) hx hb dX7_wordNumber_35 (by decide) (fun c51 => ?_) (fun c51 => ?_)
        · have c51 : (sa).toInt = (0 : Int) := hq_eqi.mp c51
          refine lv_iconst (v := 0) hx hb dX7_wordNumber_68 (by decide) ?_
          refine lv_istore_n (lv' := [(3, .int (0)), (4, .int (k)), (2, .int (i)), (1, .int (no)), (0, .ref (t))]) hx hb dX7_wordNumber_69 rfl hl (by decide) rfl (fun ls hl => ?_)
          obtain ⟨y52, ey53⟩ : ∃ y : Int32, y = i + (1) := ⟨_, rfl⟩
          obtain ⟨k54, hk55, b56, b57⟩ := hq_add (i) (1)
          rw [← ey53] at hk55 b56 b57
          have hk55 : (y52).toInt = (i).toInt + (1) + k54 * 4294967296 := hk55
          refine lv_iinc (v := y52) (lv' := [(2, .int (y52)), (3, .int (0)), (4, .int (k)), (1, .int (no)), (0, .ref (t))]) hx hb dX7_wordNumber_70 hl (k := 2) rfl (by rw [ey53]; rfl) (by decide) rfl (fun ls hl => ?_)
          refine lv_goto (tgt := 100) hx hb dX7_wordNumber_73 (by decide) ?_
          obtain ⟨y58, ey59⟩ : ∃ y : Int32, y = k + (1) := ⟨_, rfl⟩
          obtain ⟨k60, hk61, b62, b63⟩ := hq_add (k) (1)
          rw [← ey59] at hk61 b62 b63
          have hk61 : (y58).toInt = (k).toInt + (1) + k60 * 4294967296 := hk61
          refine lv_iinc (v := y58) (lv' := [(4, .int (y58)), (2, .int (y52)), (3, .int (0)), (1, .int (no)), (0, .ref (t))]) hx hb dX7_wordNumber_100 hl (k := 2) rfl (by rw [ey59]; rfl) (by decide) rfl (fun ls hl => ?_)
          refine lv_goto (tgt := 12) hx hb dX7_wordNumber_103 (by decide) ?_
          exact ih12 _ (by omega) _ _ _ ls (no) (y52) (0) (y58) rfl hZ hP (by omega) (by omega) (lv_sub hl [0, 2, 1, 3, 4] rfl)
        · have c51 : ¬ (sa).toInt = (0 : Int) := fun h9 => c51 (hq_eqi.mpr h9)
          refine lv_iload_n hx hb dX7_wordNumber_38 rfl (lv_at hl 2 rfl) ?_
          refine lv_aload_n hx hb dX7_wordNumber_39 rfl (lv_at hl 4 rfl) ?_
          have fx64 : V9 (t) = some (.inr (7, [.int (q_fk), .int (q_fp), .ref (q_tx), .ref (q_ou), .int (q_nx), .int (q_tk), .int (q_st), .ref (q_nm)])) := (hP_12.2 (t) _ h_t rfl).trans (ho_t)
          refine hp_get (v := .int (q_nx)) hx hb hts hown hZ fx64 fl_X7_39 rfl dX7_wordNumber_40 ?_
          refine lv_icmp_ge (tgt := 68) hx hb dX7_wordNumber_43 (by decide) (fun c65 => ?_) (fun c65 => ?_)
          · have c65 : (q_nx).toInt ≤ (i).toInt := hq_lei.mp c65
            refine lv_iconst (v := 0) hx hb dX7_wordNumber_68 (by decide) ?_
            refine lv_istore_n (lv' := [(3, .int (0)), (4, .int (k)), (2, .int (i)), (1, .int (no)), (0, .ref (t))]) hx hb dX7_wordNumber_69 rfl hl (by decide) rfl (fun ls hl => ?_)
            obtain ⟨y66, ey67⟩ : ∃ y : Int32, y = i + (1) := ⟨_, rfl⟩
            obtain ⟨k68, hk69, b70, b71⟩ := hq_add (i) (1)
            rw [← ey67] at hk69 b70 b71
            have hk69 : (y66).toInt = (i).toInt + (1) + k68 * 4294967296 := hk69
            refine lv_iinc (v := y66) (lv' := [(2, .int (y66)), (3, .int (0)), (4, .int (k)), (1, .int (no)), (0, .ref (t))]) hx hb dX7_wordNumber_70 hl (k := 2) rfl (by rw [ey67]; rfl) (by decide) rfl (fun ls hl => ?_)
            refine lv_goto (tgt := 100) hx hb dX7_wordNumber_73 (by decide) ?_
            obtain ⟨y72, ey73⟩ : ∃ y : Int32, y = k + (1) := ⟨_, rfl⟩
            obtain ⟨k74, hk75, b76, b77⟩ := hq_add (k) (1)
            rw [← ey73] at hk75 b76 b77
            have hk75 : (y72).toInt = (k).toInt + (1) + k74 * 4294967296 := hk75
            refine lv_iinc (v := y72) (lv' := [(4, .int (y72)), (2, .int (y66)), (3, .int (0)), (1, .int (no)), (0, .ref (t))]) hx hb dX7_wordNumber_100 hl (k := 2) rfl (by rw [ey73]; rfl) (by decide) rfl (fun ls hl => ?_)
            refine lv_goto (tgt := 12) hx hb dX7_wordNumber_103 (by decide) ?_
            exact ih12 _ (by omega) _ _ _ ls (no) (y66) (0) (y72) rfl hZ hP (by omega) (by omega) (lv_sub hl [0, 2, 1, 3, 4] rfl)
          · have c65 : ¬ (q_nx).toInt ≤ (i).toInt := fun h9 => c65 (hq_lei.mpr h9)
            refine lv_aload_n hx hb dX7_wordNumber_46 rfl (lv_at hl 4 rfl) ?_
            refine hp_get (v := .ref (q_tx)) hx hb hts hown hZ fx64 fl_X7_27 rfl dX7_wordNumber_47 ?_
            refine lv_iload_n hx hb dX7_wordNumber_50 rfl (lv_at hl 2 rfl) ?_
            obtain ⟨u85, z86, eV84, hu87, h88, h89, h90⟩ := hq_o0 hP.1 h_q_tx
            refine hp_calli (hp_runV (As := [.int (i)]) (rest := []) hx hb hml hown hts (t_X9_at l D cs B G  V9 n hP.1 _ (q_tx) h_q_tx (i) ) hZ eV84 cv_X7_182 rfl rfl ⟨Nat.le_of_ble_eq_true rfl, Nat.le_of_ble_eq_true rfl⟩ rfl hl.1 rfl (Nat.le_of_ble_eq_true rfl) dX7_wordNumber_51 ⟨(Nat.le_of_ble_eq_true rfl), (Nat.le_of_ble_eq_true rfl)⟩) hZ (fun r81 V78 n79 _ _ hw80 hZ => ?_)
            obtain ⟨rfl, hq82, hr83⟩ := hw80
            have hP := hP.trans hq82 (fun _ _ => rfl)
            have b91 := hq_rng r81
            refine va_ldcS (tx := (hp_so.getD 0 ("", 0, "")).2.2) (q := cs (100 + 0)) hx hb hown (hZ.2.2.2.2.2.2.2.2.2.2 0 (by decide)) dX7_wordNumber_54 ?_
            refine lv_iload hx hb dX7_wordNumber_56 (lv_at hl 0 rfl) ?_
            have hsl : (hp_sl.getD 0 0 : Nat) = 89 := by decide
            refine hp_calli (hp_runVS (As := [.int (k)]) (rest := [.int (r81)]) hx hb hml hown hts (s_charAt l D cs B V78 n 0 (by decide) (k) (by omega) (by omega)) hZ (by decide) rfl cv_X7_210 rfl rfl ⟨Nat.le_of_ble_eq_true rfl, Nat.le_of_ble_eq_true rfl⟩ rfl hl.1 rfl (Nat.le_of_ble_eq_true rfl) dX7_wordNumber_58 ⟨Nat.le_of_ble_eq_true rfl, Nat.le_of_ble_eq_true rfl⟩) hZ (fun r95 V92 n93 _ _ hw94 hZ => ?_)
            obtain ⟨rfl, rfl, hr96⟩ := hw94
            have b97 := hq_rng r95
            refine lv_icmp_ne (tgt := 68) hx hb dX7_wordNumber_61 (by decide) (fun c98 => ?_) (fun c98 => ?_)
            · have c98 : ¬ (r81).toInt = (r95).toInt := fun h9 => c98 (hq_eqi.mpr h9)
              refine lv_iconst (v := 0) hx hb dX7_wordNumber_68 (by decide) ?_
              refine lv_istore_n (lv' := [(3, .int (0)), (4, .int (k)), (2, .int (i)), (1, .int (no)), (0, .ref (t))]) hx hb dX7_wordNumber_69 rfl hl (by decide) rfl (fun ls hl => ?_)
              obtain ⟨y99, ey100⟩ : ∃ y : Int32, y = i + (1) := ⟨_, rfl⟩
              obtain ⟨k101, hk102, b103, b104⟩ := hq_add (i) (1)
              rw [← ey100] at hk102 b103 b104
              have hk102 : (y99).toInt = (i).toInt + (1) + k101 * 4294967296 := hk102
              refine lv_iinc (v := y99) (lv' := [(2, .int (y99)), (3, .int (0)), (4, .int (k)), (1, .int (no)), (0, .ref (t))]) hx hb dX7_wordNumber_70 hl (k := 2) rfl (by rw [ey100]; rfl) (by decide) rfl (fun ls hl => ?_)
              refine lv_goto (tgt := 100) hx hb dX7_wordNumber_73 (by decide) ?_
              obtain ⟨y105, ey106⟩ : ∃ y : Int32, y = k + (1) := ⟨_, rfl⟩
              obtain ⟨k107, hk108, b109, b110⟩ := hq_add (k) (1)
              rw [← ey106] at hk108 b109 b110
              have hk108 : (y105).toInt = (k).toInt + (1) + k107 * 4294967296 := hk108
              refine lv_iinc (v := y105) (lv' := [(4, .int (y105)), (2, .int (y99)), (3, .int (0)), (1, .int (no)), (0, .ref (t))]) hx hb dX7_wordNumber_100 hl (k := 2) rfl (by rw [ey106]; rfl) (by decide) rfl (fun ls hl => ?_)
              refine lv_goto (tgt := 12) hx hb dX7_wordNumber_103 (by decide) ?_
              exact ih12 _ (by omega) _ _ _ ls (no) (y99) (0) (y105) rfl hZ hP (by omega) (by omega) (lv_sub hl [0, 2, 1, 3, 4] rfl)
            · have c98 : (r81).toInt = (r95).toInt := hq_eqi.mp c98
              refine lv_iconst (v := 1) hx hb dX7_wordNumber_64 (by decide) ?_
              refine lv_goto (tgt := 69) hx hb dX7_wordNumber_65 (by decide) ?_
              refine lv_istore_n (lv' := [(3, .int (1)), (4, .int (k)), (2, .int (i)), (1, .int (no)), (0, .ref (t))]) hx hb dX7_wordNumber_69 rfl hl (by decide) rfl (fun ls hl => ?_)
              obtain ⟨y111, ey112⟩ : ∃ y : Int32, y = i + (1) := ⟨_, rfl⟩
              obtain ⟨k113, hk114, b115, b116⟩ := hq_add (i) (1)
              rw [← ey112] at hk114 b115 b116
              have hk114 : (y111).toInt = (i).toInt + (1) + k113 * 4294967296 := hk114
              refine lv_iinc (v := y111) (lv' := [(2, .int (y111)), (3, .int (1)), (4, .int (k)), (1, .int (no)), (0, .ref (t))]) hx hb dX7_wordNumber_70 hl (k := 2) rfl (by rw [ey112]; rfl) (by decide) rfl (fun ls hl => ?_)
              refine lv_goto (tgt := 100) hx hb dX7_wordNumber_73 (by decide) ?_
              obtain ⟨y117, ey118⟩ : ∃ y : Int32, y = k + (1) := ⟨_, rfl⟩
              obtain ⟨k119, hk120, b121, b122⟩ := hq_add (k) (1)
              rw [← ey118] at hk120 b121 b122
              have hk120 : (y117).toInt = (k).toInt + (1) + k119 * 4294967296 := hk120
              refine lv_iinc (v := y117) (lv' := [(4, .int (y117)), (2, .int (y111)), (3, .int (1)), (1, .int (no)), (0, .ref (t))]) hx hb dX7_wordNumber_100 hl (k := 2) rfl (by rw [ey118]; rfl) (by decide) rfl (fun ls hl => ?_)
              refine lv_goto (tgt := 12) hx hb dX7_wordNumber_103 (by decide) ?_
              exact ih12 _ (by omega) _ _ _ ls (no) (y111) (1) (y117) rfl hZ hP (by omega) (by omega) (lv_sub hl [0, 2, 1, 3, 4] rfl)

set_option maxHeartbeats 4000000 in
set_option maxRecDepth 100000 in
theorem t_X7_step_1 (l : Launch) (D : va_G) (cs : Nat → ClassId) (B : Nat) (G : hq_G) (V : hp_V) (n : Nat) (hI : hq_I cs G V) (t : Nat) (h_t : G t = some (10, 0, 0, 0)) {q_tx q_ou q_nm : Nat} {q_fk q_fp q_nx q_tk q_st : Int32} (ho_t : V t = some (.inr (7, [.int (q_fk), .int (q_fp), .ref (q_tx), .ref (q_ou), .int (q_nx), .int (q_tk), .int (q_st), .ref (q_nm)]))) (h_q_tx : G q_tx = some (0, 4000, 0, 0)) (h_q_ou : G q_ou = some (6, 1, 0, 0)) (h_q_nm : G q_nm = some (0, 12, 0, 0)) (hn0 : 0 ≤ q_nx.toInt) (hn1 : q_nx.toInt ≤ 4001) : hp_M l yX7_step cX7_step 3 none ({ frames := 6, cells := 0, slots := 0, locals := 130 }) D cs B V n [.ref (t)] (hp_QV D cs B (fun V' n' => n = n' ∧ hq_P cs G (fun g => g.1 == 4) V V' ∧ (∃ (q_nx1 : Int32) (q_tk1 : Int32) (q_st1 : Int32), V' t = some (.inr (7, [.int (q_fk), .int (q_fp), .ref (q_tx), .ref (q_ou), .int (q_nx1), .int (q_tk1), .int (q_st1), .ref (q_nm)])) ∧ ((0 ≤ q_nx1.toInt ∧ q_nx1.toInt ≤ 4002) ∧ (0 ≤ q_st1.toInt ∧ q_st1.toInt ≤ 4001) ∧ (q_nx1.toInt ≤ 4001 ∨ q_tk1.toInt = 21))))) 0 0 := by
  refine hp_walk (R0 := RX7) (by decide) rfl ?_ (Nat.le_of_ble_eq_true rfl)
  intro p e s m below meth c ls hx hb hr hts hown hlocks hin hml hZ hl
  have hP : hq_P cs G (fun g => g.1 == 4) V V := hq_P.rf hI
  have hl : lv_has ls 3 [(0, .ref (t))] := hl
  have hb_q_fk := hq_rng q_fk
  have hb_q_fp := hq_rng q_fp
  have hb_q_nx := hq_rng q_nx
  have hb_q_tk := hq_rng q_tk
  have hb_q_st := hq_rng q_st
  refine lv_aload_n hx hb dX7_step_0 rfl (lv_at hl 0 rfl) ?_
  refine lv_aload_n hx hb dX7_step_1 rfl (lv_at hl 0 rfl) ?_
  refine hp_get (v := .int (q_nx)) hx hb hts hown hZ ho_t fl_X7_39 rfl dX7_step_2 ?_
  refine hp_put hx hb hts hown hZ ho_t fp_X7_174 rfl rfl (Nat.le_of_ble_eq_true rfl) dX7_step_5 (fun V1 _ _ e2 o3 hZ => ?_)
  have e2 : V1 (t) = some (.inr (7, [.int (q_fk), .int (q_fp), .ref (q_tx), .ref (q_ou), .int (q_nx), .int (q_tk), .int (q_nx), .ref (q_nm)])) := e2
  have hP := hP.put h_t e2 o3 (trivial) rfl
  suffices lp8 : ∀ (k9 : Nat) (V9 : hp_V) (H9 : Heap) (locs9 : List Loc) (ls : Array Slot)  (st9 : Int32), (5000 - st9.toInt).toNat = k9 → hp_Z D cs B s V9 H9 n locs9 → hq_P cs G (fun g => g.1 == 4) V V9 → V9 (t) = some (.inr (7, [.int (q_fk), .int (q_fp), .ref (q_tx), .ref (q_ou), .int (q_nx), .int (q_tk), .int (st9), .ref (q_nm)])) → 0 ≤ st9.toInt → st9.toInt ≤ 4001 → lv_has ls 3 [(0, .ref (t))] → W p l e ({ frames := 6, cells := 0, slots := 0, locals := 130 }) s m ([.ref (t)] : List Value).toArray below meth c H9 locs9 0 0 (MQ below (hp_QV D cs B (fun V' n' => n = n' ∧ hq_P cs G (fun g => g.1 == 4) V V' ∧ (∃ (q_nx1 : Int32) (q_tk1 : Int32) (q_st1 : Int32), V' t = some (.inr (7, [.int (q_fk), .int (q_fp), .ref (q_tx), .ref (q_ou), .int (q_nx1), .int (q_tk1), .int (q_st1), .ref (q_nm)])) ∧ ((0 ≤ q_nx1.toInt ∧ q_nx1.toInt ≤ 4002) ∧ (0 ≤ q_st1.toInt ∧ q_st1.toInt ≤ 4001) ∧ (q_nx1.toInt ≤ 4001 ∨ q_tk1.toInt = 21))))) ([.ref (t)] : List Value).toArray s 0 0 (hp_F B)) (F0 m 8 ls []) from lp8 _ _ _ _ ls  (q_nx) rfl hZ hP e2 (by omega) (by omega) (lv_sub hl [0] rfl)
  intro k9
  induction k9 using Nat.strongRecOn with
  | _ k9 ih8 =>
    intro V9 H9 locs9 ls  st9 hk8 hZ hP ho4 hv5 hv6 hl
    have hb_st9 := hq_rng st9
    have hP_8 := hP
    refine lv_aload_n hx hb dX7_step_8 rfl (lv_at hl 0 rfl) ?_
    refine hp_get (v := .int (st9)) hx hb hts hown hZ ho4 fl_X7_174 rfl dX7_step_9 ?_
    refine lv_aload_n hx hb dX7_step_12 rfl (lv_at hl 0 rfl) ?_
    refine hp_get (v := .ref (q_tx)) hx hb hts hown hZ ho4 fl_X7_27 rfl dX7_step_13 ?_
    obtain ⟨u8, z9, eV7, hu10, h11, h12, h13⟩ := hq_o0 hP.1 h_q_tx
    refine hp_get (v := .int (z9)) hx hb hts hown hZ eV7 fl_X7_192 rfl dX7_step_16 ?_
    refine lv_icmp_ge (tgt := 67) hx hb dX7_step_19 (by decide) (fun c14 => ?_) (fun c14 => ?_)
    · have c14 : (z9).toInt ≤ (st9).toInt := hq_lei.mp c14
      refine lv_aload_n hx hb dX7_step_67 rfl (lv_at hl 0 rfl) ?_
      refine lv_aload_n hx hb dX7_step_68 rfl (lv_at hl 0 rfl) ?_
      refine hp_get (v := .int (st9)) hx hb hts hown hZ ho4 fl_X7_174 rfl dX7_step_69 ?_
      refine lv_iconst (v := 1) hx hb dX7_step_72 (by decide) ?_
      refine lv_iadd hx hb dX7_step_73 ?_
      refine lv_topi (fun y15 ey16 => ?_)
      obtain ⟨k17, hk18, b19, b20⟩ := hq_add (st9) (1)
      rw [← ey16] at hk18 b19 b20
      have hk18 : (y15).toInt = (st9).toInt + (1 : Int) + k17 * 4294967296 := hk18
      obtain rfl : k17 = 0 := by omega
      refine hp_put hx hb hts hown hZ ho4 fp_X7_39 rfl rfl (Nat.le_of_ble_eq_true rfl) dX7_step_74 (fun V21 _ _ e22 o23 hZ => ?_)
      have e22 : V21 (t) = some (.inr (7, [.int (q_fk), .int (q_fp), .ref (q_tx), .ref (q_ou), .int (y15), .int (q_tk), .int (st9), .ref (q_nm)])) := e22
      have hP := hP.put h_t e22 o23 (trivial) rfl
      refine lv_aload_n hx hb dX7_step_77 rfl (lv_at hl 0 rfl) ?_
      refine hp_get (v := .ref (q_tx)) hx hb hts hown hZ e22 fl_X7_27 rfl dX7_step_78 ?_
      refine lv_aload_n hx hb dX7_step_81 rfl (lv_at hl 0 rfl) ?_
      refine hp_get (v := .int (st9)) hx hb hts hown hZ e22 fl_X7_174 rfl dX7_step_82 ?_
      have fx30 : V21 (q_tx) = some (.inr (9, [.ref (u8), .int (z9)])) := (o23 (q_tx) (hq_tne h_q_tx h_t (by simp))).trans (eV7)
      refine hp_calli (hp_runV (As := [.int (st9)]) (rest := []) hx hb hml hown hts (t_X9_at l D cs B G  V21 n hP.1 _ (q_tx) h_q_tx (st9) ) hZ fx30 cv_X7_182 rfl rfl ⟨Nat.le_of_ble_eq_true rfl, Nat.le_of_ble_eq_true rfl⟩ rfl hl.1 rfl (Nat.le_of_ble_eq_true rfl) dX7_step_85 ⟨(Nat.le_of_ble_eq_true rfl), (Nat.le_of_ble_eq_true rfl)⟩) hZ (fun r27 V24 n25 _ _ hw26 hZ => ?_)
      obtain ⟨rfl, hq28, hr29⟩ := hw26
      have hP := hP.trans hq28 (fun _ _ => rfl)
      have b31 := hq_rng r27
      refine lv_istore_n (lv' := [(1, .int (r27)), (0, .ref (t))]) hx hb dX7_step_88 rfl hl (by decide) rfl (fun ls hl => ?_)
      refine lv_iload_n hx hb dX7_step_89 rfl (lv_at hl 0 rfl) ?_
      refine lv_iconst (v := -1) hx hb dX7_step_90 (by decide) ?_
      refine lv_icmp_ne (tgt := 103) hx hb dX7_step_91 (by decide) (fun c32 => ?_) (fun c32 => ?_)
      · have c32 : ¬ (r27).toInt = (-1 : Int) := fun h9 => c32 (hq_eqi.mpr h9)
        refine lv_iload_n hx hb dX7_step_103 rfl (lv_at hl 0 rfl) ?_
        refine lv_bipush (v := 59) hx hb dX7_step_104 (by decide) ?_
        refine lv_icmp_ne (tgt := 118) hx hb dX7_step_106 (by decide) (fun c33 => ?_) (fun c33 => ?_)
        · have c33 : ¬ (r27).toInt = (59 : Int) := fun h9 => c33 (hq_eqi.mpr h9)
          refine lv_iload_n hx hb dX7_step_118 rfl (lv_at hl 0 rfl) ?_
          refine lv_bipush (v := 39) hx hb dX7_step_119 (by decide) ?_
          refine lv_icmp_ne (tgt := 202) hx hb dX7_step_121 (by decide) (fun c34 => ?_) (fun c34 => ?_)
          · have c34 : ¬ (r27).toInt = (39 : Int) := fun h9 => c34 (hq_eqi.mpr h9)
            refine lv_iload_n hx hb dX7_step_202 rfl (lv_at hl 0 rfl) ?_
            refine lv_bipush (v := 97) hx hb dX7_step_203 (by decide) ?_
            refine lv_icmp_lt (tgt := 260) hx hb dX7_step_205 (by decide) (fun c35 => ?_) (fun c35 => ?_)
            · have c35 : (r27).toInt < (97 : Int) := hq_lti.mp c35
              refine lv_iload_n hx hb dX7_step_260 rfl (lv_at hl 0 rfl) ?_
              refine lv_bipush (v := 48) hx hb dX7_step_261 (by decide) ?_
              refine lv_icmp_lt (tgt := 315) hx hb dX7_step_263 (by decide) (fun c36 => ?_) (fun c36 => ?_)
              · have c36 : (r27).toInt < (48 : Int) := hq_lti.mp c36
                refine lv_aload_n hx hb dX7_step_315 rfl (lv_at hl 1 rfl) ?_
                refine lv_bipush (v := 22) hx hb dX7_step_316 (by decide) ?_
                have fx37 : V24 (t) = some (.inr (7, [.int (q_fk), .int (q_fp), .ref (q_tx), .ref (q_ou), .int (y15), .int (q_tk), .int (st9), .ref (q_nm)])) := (hq28.2 (t) _ h_t rfl).trans (e22)
                refine hp_put hx hb hts hown hZ fx37 fp_X7_45 rfl rfl (Nat.le_of_ble_eq_true rfl) dX7_step_318 (fun V38 _ _ e39 o40 hZ => ?_)
                have e39 : V38 (t) = some (.inr (7, [.int (q_fk), .int (q_fp), .ref (q_tx), .ref (q_ou), .int (y15), .int (22), .int (st9), .ref (q_nm)])) := e39
                have hP := hP.put h_t e39 o40 (trivial) rfl
                have hl41 : (22 : Int32).toInt = 22 := by decide
                exact hp_vret hx hb hr hlocks hZ ⟨rfl, hP, ⟨y15, 22, st9, e39, by omega⟩⟩ dX7_step_321
              · have c36 : ¬ (r27).toInt < (48 : Int) := fun h9 => c36 (hq_lti.mpr h9)
                refine lv_iload_n hx hb dX7_step_266 rfl (lv_at hl 0 rfl) ?_
                refine lv_bipush (v := 57) hx hb dX7_step_267 (by decide) ?_
                refine lv_icmp_gt (tgt := 315) hx hb dX7_step_269 (by decide) (fun c42 => ?_) (fun c42 => ?_)
                · have c42 : (57 : Int) < (r27).toInt := hq_lti.mp c42
                  refine lv_aload_n hx hb dX7_step_315 rfl (lv_at hl 1 rfl) ?_
                  refine lv_bipush (v := 22) hx hb dX7_step_316 (by decide) ?_
                  have fx43 : V24 (t) = some (.inr (7, [.int (q_fk), .int (q_fp), .ref (q_tx), .ref (q_ou), .int (y15), .int (q_tk), .int (st9), .ref (q_nm)])) := (hq28.2 (t) _ h_t rfl).trans (e22)
                  refine hp_put hx hb hts hown hZ fx43 fp_X7_45 rfl rfl (Nat.le_of_ble_eq_true rfl) dX7_step_318 (fun V44 _ _ e45 o46 hZ => ?_)
                  have e45 : V44 (t) = some (.inr (7, [.int (q_fk), .int (q_fp), .ref (q_tx), .ref (q_ou), .int (y15), .int (22), .int (st9), .ref (q_nm)])) := e45
                  have hP := hP.put h_t e45 o46 (trivial) rfl
                  have hl47 : (22 : Int32).toInt = 22 := by decide
                  exact hp_vret hx hb hr hlocks hZ ⟨rfl, hP, ⟨y15, 22, st9, e45, by omega⟩⟩ dX7_step_321
                · have c42 : ¬ (57 : Int) < (r27).toInt := fun h9 => c42 (hq_lti.mpr h9)
                  refine lv_aload_n hx hb dX7_step_272 rfl (lv_at hl 1 rfl) ?_
                  refine lv_aload_n hx hb dX7_step_273 rfl (lv_at hl 1 rfl) ?_
                  refine lv_aload_n hx hb dX7_step_274 rfl (lv_at hl 1 rfl) ?_
                  have fx48 : V24 (t) = some (.inr (7, [.int (q_fk), .int (q_fp), .ref (q_tx), .ref (q_ou), .int (y15), .int (q_tk), .int (st9), .ref (q_nm)])) := (hq28.2 (t) _ h_t rfl).trans (e22)
                  refine hp_get (v := .int (st9)) hx hb hts hown hZ fx48 fl_X7_174 rfl dX7_step_275 ?_
                  refine lv_bipush (v := 48) hx hb dX7_step_278 (by decide) ?_
                  refine lv_bipush (v := 57) hx hb dX7_step_280 (by decide) ?_
                  have hl56 : (48 : Int32).toInt = 48 := by decide
                  have hl57 : (57 : Int32).toInt = 57 := by decide
                  refine hp_calli (hp_runV (As := [.int (st9), .int (48), .int (57)]) (rest := [.ref (t)]) hx hb hml hown hts (t_X7_runEnd_1 l D cs B G  V24 n hP.1  (t) h_t (st9) (48) (57) fx48 h_q_tx h_q_ou h_q_nm (by omega) (by omega)) hZ fx48 cv_X7_195 rfl rfl ⟨Nat.le_of_ble_eq_true rfl, Nat.le_of_ble_eq_true rfl⟩ rfl hl.1 rfl (Nat.le_of_ble_eq_true rfl) dX7_step_282 ⟨(Nat.le_of_ble_eq_true rfl), (Nat.le_of_ble_eq_true rfl)⟩) hZ (fun r52 V49 n50 _ _ hw51 hZ => ?_)
                  obtain ⟨rfl, hq53, ho55, hr54⟩ := hw51
                  have hP := hP.trans hq53 (fun _ _ => rfl)
                  have b58 := hq_rng r52
                  refine hp_put hx hb hts hown hZ ho55 fp_X7_39 rfl rfl (Nat.le_of_ble_eq_true rfl) dX7_step_285 (fun V59 _ _ e60 o61 hZ => ?_)
                  have e60 : V59 (t) = some (.inr (7, [.int (q_fk), .int (q_fp), .ref (q_tx), .ref (q_ou), .int (r52), .int (q_tk), .int (st9), .ref (q_nm)])) := e60
                  have hP := hP.put h_t e60 o61 (trivial) rfl
                  refine lv_aload_n hx hb dX7_step_288 rfl (lv_at hl 1 rfl) ?_
                  refine lv_aload_n hx hb dX7_step_289 rfl (lv_at hl 1 rfl) ?_
                  refine hp_get (v := .int (r52)) hx hb hts hown hZ e60 fl_X7_39 rfl dX7_step_290 ?_
                  refine lv_aload_n hx hb dX7_step_293 rfl (lv_at hl 1 rfl) ?_
                  refine hp_get (v := .int (st9)) hx hb hts hown hZ e60 fl_X7_174 rfl dX7_step_294 ?_
                  refine lv_isub hx hb dX7_step_297 ?_
                  refine lv_topi (fun y62 ey63 => ?_)
                  obtain ⟨k64, hk65, b66, b67⟩ := hq_sub (r52) (st9)
                  rw [← ey63] at hk65 b66 b67
                  have hk65 : (y62).toInt = (r52).toInt - (st9).toInt + k64 * 4294967296 := hk65
                  obtain rfl : k64 = 0 := by omega
                  refine lv_iconst (v := 1) hx hb dX7_step_298 (by decide) ?_
                  refine lv_icmp_ne (tgt := 307) hx hb dX7_step_299 (by decide) (fun c68 => ?_) (fun c68 => ?_)
                  · have c68 : ¬ (y62).toInt = (1 : Int) := fun h9 => c68 (hq_eqi.mpr h9)
                    refine lv_bipush (v := 22) hx hb dX7_step_307 (by decide) ?_
                    refine hp_put hx hb hts hown hZ e60 fp_X7_45 rfl rfl (Nat.le_of_ble_eq_true rfl) dX7_step_309 (fun V69 _ _ e70 o71 hZ => ?_)
                    have e70 : V69 (t) = some (.inr (7, [.int (q_fk), .int (q_fp), .ref (q_tx), .ref (q_ou), .int (r52), .int (22), .int (st9), .ref (q_nm)])) := e70
                    have hP := hP.put h_t e70 o71 (trivial) rfl
                    refine lv_goto (tgt := 321) hx hb dX7_step_312 (by decide) ?_
                    have hl72 : (22 : Int32).toInt = 22 := by decide
                    exact hp_vret hx hb hr hlocks hZ ⟨rfl, hP, ⟨r52, 22, st9, e70, by omega⟩⟩ dX7_step_321
                  · have c68 : (y62).toInt = (1 : Int) := hq_eqi.mp c68
                    refine lv_bipush (v := 18) hx hb dX7_step_302 (by decide) ?_
                    refine lv_goto (tgt := 309) hx hb dX7_step_304 (by decide) ?_
                    refine hp_put hx hb hts hown hZ e60 fp_X7_45 rfl rfl (Nat.le_of_ble_eq_true rfl) dX7_step_309 (fun V73 _ _ e74 o75 hZ => ?_)
                    have e74 : V73 (t) = some (.inr (7, [.int (q_fk), .int (q_fp), .ref (q_tx), .ref (q_ou), .int (r52), .int (18), .int (st9), .ref (q_nm)])) := e74
                    have hP := hP.put h_t e74 o75 (trivial) rfl
                    refine lv_goto (tgt := 321) hx hb dX7_step_312 (by decide) ?_
                    have hl76 : (18 : Int32).toInt = 18 := by decide
                    exact hp_vret hx hb hr hlocks hZ ⟨rfl, hP, ⟨r52, 18, st9, e74, by omega⟩⟩ dX7_step_321
            · have c35 : ¬ (r27).toInt < (97 : Int) := fun h9 => c35 (hq_lti.mpr h9)
              refine lv_iload_n hx hb dX7_step_208 rfl (lv_at hl 0 rfl) ?_
              refine lv_bipush (v := 122) hx hb dX7_step_209 (by decide) ?_
              refine lv_icmp_gt (tgt := 260) hx hb dX7_step_211 (by decide) (fun c77 => ?_) (fun c77 => ?_)
              · have c77 : (122 : Int) < (r27).toInt := hq_lti.mp c77
                refine lv_iload_n hx hb dX7_step_260 rfl (lv_at hl 0 rfl) ?_
                refine lv_bipush (v := 48) hx hb dX7_step_261 (by decide) ?_
                refine lv_icmp_lt (tgt := 315) hx hb dX7_step_263 (by decide) (fun c78 => ?_) (fun c78 => ?_)
                · have c78 : (r27).toInt < (48 : Int) := hq_lti.mp c78
                  refine lv_aload_n hx hb dX7_step_315 rfl (lv_at hl 1 rfl) ?_
                  refine lv_bipush (v := 22) hx hb dX7_step_316 (by decide) ?_
                  have fx79 : V24 (t) = some (.inr (7, [.int (q_fk), .int (q_fp), .ref (q_tx), .ref (q_ou), .int (y15), .int (q_tk), .int (st9), .ref (q_nm)])) := (hq28.2 (t) _ h_t rfl).trans (e22)
                  refine hp_put hx hb hts hown hZ fx79 fp_X7_45 rfl rfl (Nat.le_of_ble_eq_true rfl) dX7_step_318 (fun V80 _ _ e81 o82 hZ => ?_)
                  have e81 : V80 (t) = some (.inr (7, [.int (q_fk), .int (q_fp), .ref (q_tx), .ref (q_ou), .int (y15), .int (22), .int (st9), .ref (q_nm)])) := e81
                  have hP := hP.put h_t e81 o82 (trivial) rfl
                  have hl83 : (22 : Int32).toInt = 22 := by decide
                  exact hp_vret hx hb hr hlocks hZ ⟨rfl, hP, ⟨y15, 22, st9, e81, by omega⟩⟩ dX7_step_321
                · have c78 : ¬ (r27).toInt < (48 : Int) := fun h9 => c78 (hq_lti.mpr h9)
                  refine lv_iload_n hx hb dX7_step_266 rfl (lv_at hl 0 rfl) ?_
                  refine lv_bipush (v := 57) hx hb dX7_step_267 (by decide) ?_
                  refine lv_icmp_gt (tgt := 315) hx hb dX7_step_269 (by decide) (fun c84 => ?_) (fun c84 => ?_)
                  · have c84 : (57 : Int) < (r27).toInt := hq_lti.mp c84
                    refine lv_aload_n hx hb dX7_step_315 rfl (lv_at hl 1 rfl) ?_
                    refine lv_bipush (v := 22) hx hb dX7_step_316 (by decide) ?_
                    have fx85 : V24 (t) = some (.inr (7, [.int (q_fk), .int (q_fp), .ref (q_tx), .ref (q_ou), .int (y15), .int (q_tk), .int (st9), .ref (q_nm)])) := (hq28.2 (t) _ h_t rfl).trans (e22)
                    refine hp_put hx hb hts hown hZ fx85 fp_X7_45 rfl rfl (Nat.le_of_ble_eq_true rfl) dX7_step_318 (fun V86 _ _ e87 o88 hZ => ?_)
                    have e87 : V86 (t) = some (.inr (7, [.int (q_fk), .int (q_fp), .ref (q_tx), .ref (q_ou), .int (y15), .int (22), .int (st9), .ref (q_nm)])) := e87
                    have hP := hP.put h_t e87 o88 (trivial) rfl
                    have hl89 : (22 : Int32).toInt = 22 := by decide
                    exact hp_vret hx hb hr hlocks hZ ⟨rfl, hP, ⟨y15, 22, st9, e87, by omega⟩⟩ dX7_step_321
                  · have c84 : ¬ (57 : Int) < (r27).toInt := fun h9 => c84 (hq_lti.mpr h9)
                    refine lv_aload_n hx hb dX7_step_272 rfl (lv_at hl 1 rfl) ?_
                    refine lv_aload_n hx hb dX7_step_273 rfl (lv_at hl 1 rfl) ?_
                    refine lv_aload_n hx hb dX7_step_274 rfl (lv_at hl 1 rfl) ?_
                    have fx90 : V24 (t) = some (.inr (7, [.int (q_fk), .int (q_fp), .ref (q_tx), .ref (q_ou), .int (y15), .int (q_tk), .int (st9), .ref (q_nm)])) := (hq28.2 (t) _ h_t rfl).trans (e22)
                    refine hp_get (v := .int (st9)) hx hb hts hown hZ fx90 fl_X7_174 rfl dX7_step_275 ?_
                    refine lv_bipush (v := 48) hx hb dX7_step_278 (by decide) ?_
                    refine lv_bipush (v := 57) hx hb dX7_step_280 (by decide) ?_
                    have hl98 : (48 : Int32).toInt = 48 := by decide
                    have hl99 : (57 : Int32).toInt = 57 := by decide
                    refine hp_calli (hp_runV (As := [.int (st9), .int (48), .int (57)]) (rest := [.ref (t)]) hx hb hml hown hts (t_X7_runEnd_1 l D cs B G  V24 n hP.1  (t) h_t (st9) (48) (57) fx90 h_q_tx h_q_ou h_q_nm (by omega) (by omega)) hZ fx90 cv_X7_195 rfl rfl ⟨Nat.le_of_ble_eq_true rfl, Nat.le_of_ble_eq_true rfl⟩ rfl hl.1 rfl (Nat.le_of_ble_eq_true rfl) dX7_step_282 ⟨(Nat.le_of_ble_eq_true rfl), (Nat.le_of_ble_eq_true rfl)⟩) hZ (fun r94 V91 n92 _ _ hw93 hZ => ?_)
                    obtain ⟨rfl, hq95, ho97, hr96⟩ := hw93
                    have hP := hP.trans hq95 (fun _ _ => rfl)
                    have b100 := hq_rng r94
                    refine hp_put hx hb hts hown hZ ho97 fp_X7_39 rfl rfl (Nat.le_of_ble_eq_true rfl) dX7_step_285 (fun V101 _ _ e102 o103 hZ => ?_)
                    have e102 : V101 (t) = some (.inr (7, [.int (q_fk), .int (q_fp), .ref (q_tx), .ref (q_ou), .int (r94), .int (q_tk), .int (st9), .ref (q_nm)])) := e102
                    have hP := hP.put h_t e102 o103 (trivial) rfl
                    refine lv_aload_n hx hb dX7_step_288 rfl (lv_at hl 1 rfl) ?_
                    refine lv_aload_n hx hb dX7_step_289 rfl (lv_at hl 1 rfl) ?_
                    refine hp_get (v := .int (r94)) hx hb hts hown hZ e102 fl_X7_39 rfl dX7_step_290 ?_
                    refine lv_aload_n hx hb dX7_step_293 rfl (lv_at hl 1 rfl) ?_
                    refine hp_get (v := .int (st9)) hx hb hts hown hZ e102 fl_X7_174 rfl dX7_step_294 ?_
                    refine lv_isub hx hb dX7_step_297 ?_
                    refine lv_topi (fun y104 ey105 => ?_)
                    obtain ⟨k106, hk107, b108, b109⟩ := hq_sub (r94) (st9)
                    rw [← ey105] at hk107 b108 b109
                    have hk107 : (y104).toInt = (r94).toInt - (st9).toInt + k106 * 4294967296 := hk107
                    obtain rfl : k106 = 0 := by omega
                    refine lv_iconst (v := 1) hx hb dX7_step_298 (by decide) ?_
                    refine lv_icmp_ne (tgt := 307) hx hb dX7_step_299 (by decide) (fun c110 => ?_) (fun c110 => ?_)
                    · have c110 : ¬ (y104).toInt = (1 : Int) := fun h9 => c110 (hq_eqi.mpr h9)
                      refine lv_bipush (v := 22) hx hb dX7_step_307 (by decide) ?_
                      refine hp_put hx hb hts hown hZ e102 fp_X7_45 rfl rfl (Nat.le_of_ble_eq_true rfl) dX7_step_309 (fun V111 _ _ e112 o113 hZ => ?_)
                      have e112 : V111 (t) = some (.inr (7, [.int (q_fk), .int (q_fp), .ref (q_tx), .ref (q_ou), .int (r94), .int (22), .int (st9), .ref (q_nm)])) := e112
                      have hP := hP.put h_t e112 o113 (trivial) rfl
                      refine lv_goto (tgt := 321) hx hb dX7_step_312 (by decide) ?_
                      have hl114 : (22 : Int32).toInt = 22 := by decide
                      exact hp_vret hx hb hr hlocks hZ ⟨rfl, hP, ⟨r94, 22, st9, e112, by omega⟩⟩ dX7_step_321
                    · have c110 : (y104).toInt = (1 : Int) := hq_eqi.mp c110
                      refine lv_bipush (v := 18) hx hb dX7_step_302 (by decide) ?_
                      refine lv_goto (tgt := 309) hx hb dX7_step_304 (by decide) ?_
                      refine hp_put hx hb hts hown hZ e102 fp_X7_45 rfl rfl (Nat.le_of_ble_eq_true rfl) dX7_step_309 (fun V115 _ _ e116 o117 hZ => ?_)
                      have e116 : V115 (t) = some (.inr (7, [.int (q_fk), .int (q_fp), .ref (q_tx), .ref (q_ou), .int (r94), .int (18), .int (st9), .ref (q_nm)])) := e116
                      have hP := hP.put h_t e116 o117 (trivial) rfl
                      refine lv_goto (tgt := 321) hx hb dX7_step_312 (by decide) ?_
                      have hl118 : (18 : Int32).toInt = 18 := by decide
                      exact hp_vret hx hb hr hlocks hZ ⟨rfl, hP, ⟨r94, 18, st9, e116, by omega⟩⟩ dX7_step_321
              · have c77 : ¬ (122 : Int) < (r27).toInt := fun h9 => c77 (hq_lti.mpr h9)
                refine lv_aload_n hx hb dX7_step_214 rfl (lv_at hl 1 rfl) ?_
                refine lv_aload_n hx hb dX7_step_215 rfl (lv_at hl 1 rfl) ?_
                refine lv_aload_n hx hb dX7_step_216 rfl (lv_at hl 1 rfl) ?_
                have fx119 : V24 (t) = some (.inr (7, [.int (q_fk), .int (q_fp), .ref (q_tx), .ref (q_ou), .int (y15), .int (q_tk), .int (st9), .ref (q_nm)])) := (hq28.2 (t) _ h_t rfl).trans (e22)
                refine hp_get (v := .int (st9)) hx hb hts hown hZ fx119 fl_X7_174 rfl dX7_step_217 ?_
                refine lv_bipush (v := 97) hx hb dX7_step_220 (by decide) ?_
                refine lv_bipush (v := 122) hx hb dX7_step_222 (by decide) ?_
                have hl127 : (97 : Int32).toInt = 97 := by decide
                have hl128 : (122 : Int32).toInt = 122 := by decide
                refine hp_calli (hp_runV (As := [.int (st9), .int (97), .int (122)]) (rest := [.ref (t)]) hx hb hml hown hts (t_X7_runEnd_1 l D cs B G  V24 n hP.1  (t) h_t (st9) (97) (122) fx119 h_q_tx h_q_ou h_q_nm (by omega) (by omega)) hZ fx119 cv_X7_195 rfl rfl ⟨Nat.le_of_ble_eq_true rfl, Nat.le_of_ble_eq_true rfl⟩ rfl hl.1 rfl (Nat.le_of_ble_eq_true rfl) dX7_step_224 ⟨(Nat.le_of_ble_eq_true rfl), (Nat.le_of_ble_eq_true rfl)⟩) hZ (fun r123 V120 n121 _ _ hw122 hZ => ?_)
                obtain ⟨rfl, hq124, ho126, hr125⟩ := hw122
                have hP := hP.trans hq124 (fun _ _ => rfl)
                have b129 := hq_rng r123
                refine hp_put hx hb hts hown hZ ho126 fp_X7_39 rfl rfl (Nat.le_of_ble_eq_true rfl) dX7_step_227 (fun V130 _ _ e131 o132 hZ => ?_)
                have e131 : V130 (t) = some (.inr (7, [.int (q_fk), .int (q_fp), .ref (q_tx), .ref (q_ou), .int (r123), .int (q_tk), .int (st9), .ref (q_nm)])) := e131
                have hP := hP.put h_t e131 o132 (trivial) rfl
                refine lv_aload_n hx hb dX7_step_230 rfl (lv_at hl 1 rfl) ?_
                refine lv_aload_n hx hb dX7_step_231 rfl (lv_at hl 1 rfl) ?_
                refine hp_get (v := .int (r123)) hx hb hts hown hZ e131 fl_X7_39 rfl dX7_step_232 ?_
                refine lv_aload_n hx hb dX7_step_235 rfl (lv_at hl 1 rfl) ?_
                refine hp_get (v := .int (st9)) hx hb hts hown hZ e131 fl_X7_174 rfl dX7_step_236 ?_
                refine lv_isub hx hb dX7_step_239 ?_
                refine lv_topi (fun y133 ey134 => ?_)
                obtain ⟨k135, hk136, b137, b138⟩ := hq_sub (r123) (st9)
                rw [← ey134] at hk136 b137 b138
                have hk136 : (y133).toInt = (r123).toInt - (st9).toInt + k135 * 4294967296 := hk136
                obtain rfl : k135 = 0 := by omega
                refine lv_bipush (v := 12) hx hb dX7_step_240 (by decide) ?_
                refine lv_icmp_gt (tgt := 252) hx hb dX7_step_242 (by decide) (fun c139 => ?_) (fun c139 => ?_)
                · have c139 : (12 : Int) < (y133).toInt := hq_lti.mp c139
                  refine lv_bipush (v := 22) hx hb dX7_step_252 (by decide) ?_
                  refine hp_put hx hb hts hown hZ e131 fp_X7_45 rfl rfl (Nat.le_of_ble_eq_true rfl) dX7_step_254 (fun V140 _ _ e141 o142 hZ => ?_)
                  have e141 : V140 (t) = some (.inr (7, [.int (q_fk), .int (q_fp), .ref (q_tx), .ref (q_ou), .int (r123), .int (22), .int (st9), .ref (q_nm)])) := e141
                  have hP := hP.put h_t e141 o142 (trivial) rfl
                  refine lv_goto (tgt := 321) hx hb dX7_step_257 (by decide) ?_
                  have hl143 : (22 : Int32).toInt = 22 := by decide
                  exact hp_vret hx hb hr hlocks hZ ⟨rfl, hP, ⟨r123, 22, st9, e141, by omega⟩⟩ dX7_step_321
                · have c139 : ¬ (12 : Int) < (y133).toInt := fun h9 => c139 (hq_lti.mpr h9)
                  refine lv_aload_n hx hb dX7_step_245 rfl (lv_at hl 1 rfl) ?_
                  refine hp_calli (hp_runV (As := []) (rest := [.ref (t)]) hx hb hml hown hts (t_X7_wordNumber_1 l D cs B G  V130 n hP.1  (t) h_t e131 h_q_tx h_q_ou h_q_nm ) hZ e131 cv_X7_199 rfl rfl ⟨Nat.le_of_ble_eq_true rfl, Nat.le_of_ble_eq_true rfl⟩ rfl hl.1 rfl (Nat.le_of_ble_eq_true rfl) dX7_step_246 ⟨(Nat.le_of_ble_eq_true rfl), (Nat.le_of_ble_eq_true rfl)⟩) hZ (fun r147 V144 n145 _ _ hw146 hZ => ?_)
                  obtain ⟨rfl, hq148, ho150, hr149⟩ := hw146
                  have hP := hP.trans hq148 (fun _ _ => rfl)
                  have b151 := hq_rng r147
                  refine lv_goto (tgt := 254) hx hb dX7_step_249 (by decide) ?_
                  refine hp_put hx hb hts hown hZ ho150 fp_X7_45 rfl rfl (Nat.le_of_ble_eq_true rfl) dX7_step_254 (fun V152 _ _ e153 o154 hZ => ?_)
                  have e153 : V152 (t) = some (.inr (7, [.int (q_fk), .int (q_fp), .ref (q_tx), .ref (q_ou), .int (r123), .int (r147), .int (st9), .ref (q_nm)])) := e153
                  have hP := hP.put h_t e153 o154 (trivial) rfl
                  refine lv_goto (tgt := 321) hx hb dX7_step_257 (by decide) ?_
                  exact hp_vret hx hb hr hlocks hZ ⟨rfl, hP, ⟨r123, r147, st9, e153, by omega⟩⟩ dX7_step_321
          · have c34 : (r27).toInt = (39 : Int) := hq_eqi.mp c34
            refine lv_aload_n hx hb dX7_step_124 rfl (lv_at hl 1 rfl) ?_
            refine lv_aload_n hx hb dX7_step_125 rfl (lv_at hl 1 rfl) ?_
            refine lv_aload_n hx hb dX7_step_126 rfl (lv_at hl 1 rfl) ?_
            have fx155 : V24 (t) = some (.inr (7, [.int (q_fk), .int (q_fp), .ref (q_tx), .ref (q_ou), .int (y15), .int (q_tk), .int (st9), .ref (q_nm)])) := (hq28.2 (t) _ h_t rfl).trans (e22)
            refine hp_get (v := .int (st9)) hx hb hts hown hZ fx155 fl_X7_174 rfl dX7_step_127 ?_
            refine lv_iconst (v := 1) hx hb dX7_step_130 (by decide) ?_
            refine lv_iadd hx hb dX7_step_131 ?_
            refine lv_topi (fun y156 ey157 => ?_)
            obtain ⟨k158, hk159, b160, b161⟩ := hq_add (st9) (1)
            rw [← ey157] at hk159 b160 b161
            have hk159 : (y156).toInt = (st9).toInt + (1 : Int) + k158 * 4294967296 := hk159
            obtain rfl : k158 = 0 := by omega
            refine lv_bipush (v := 97) hx hb dX7_step_132 (by decide) ?_
            refine lv_bipush (v := 122) hx hb dX7_step_134 (by decide) ?_
            have hl169 : (97 : Int32).toInt = 97 := by decide
            have hl170 : (122 : Int32).toInt = 122 := by decide
            refine hp_calli (hp_runV (As := [.int (y156), .int (97), .int (122)]) (rest := [.ref (t)]) hx hb hml hown hts (t_X7_runEnd_1 l D cs B G  V24 n hP.1  (t) h_t (y156) (97) (122) fx155 h_q_tx h_q_ou h_q_nm (by omega) (by omega)) hZ fx155 cv_X7_195 rfl rfl ⟨Nat.le_of_ble_eq_true rfl, Nat.le_of_ble_eq_true rfl⟩ rfl hl.1 rfl (Nat.le_of_ble_eq_true rfl) dX7_step_136 ⟨(Nat.le_of_ble_eq_true rfl), (Nat.le_of_ble_eq_true rfl)⟩) hZ (fun r165 V162 n163 _ _ hw164 hZ => ?_)
            obtain ⟨rfl, hq166, ho168, hr167⟩ := hw164
            have hP := hP.trans hq166 (fun _ _ => rfl)
            have b171 := hq_rng r165
            refine lv_iconst (v := 1) hx hb dX7_step_139 (by decide) ?_
            refine lv_iadd hx hb dX7_step_140 ?_
            refine lv_topi (fun y172 ey173 => ?_)
            obtain ⟨k174, hk175, b176, b177⟩ := hq_add (r165) (1)
            rw [← ey173] at hk175 b176 b177
            have hk175 : (y172).toInt = (r165).toInt + (1 : Int) + k174 * 4294967296 := hk175
            obtain rfl : k174 = 0 := by omega
            refine hp_put hx hb hts hown hZ ho168 fp_X7_39 rfl rfl (Nat.le_of_ble_eq_true rfl) dX7_step_141 (fun V178 _ _ e179 o180 hZ => ?_)
            have e179 : V178 (t) = some (.inr (7, [.int (q_fk), .int (q_fp), .ref (q_tx), .ref (q_ou), .int (y172), .int (q_tk), .int (st9), .ref (q_nm)])) := e179
            have hP := hP.put h_t e179 o180 (trivial) rfl
            refine lv_aload_n hx hb dX7_step_144 rfl (lv_at hl 1 rfl) ?_
            refine hp_get (v := .ref (q_tx)) hx hb hts hown hZ e179 fl_X7_27 rfl dX7_step_145 ?_
            refine lv_aload_n hx hb dX7_step_148 rfl (lv_at hl 1 rfl) ?_
            refine hp_get (v := .int (y172)) hx hb hts hown hZ e179 fl_X7_39 rfl dX7_step_149 ?_
            refine lv_iconst (v := 1) hx hb dX7_step_152 (by decide) ?_
            refine lv_isub hx hb dX7_step_153 ?_
            refine lv_topi (fun y181 ey182 => ?_)
            obtain ⟨k183, hk184, b185, b186⟩ := hq_sub (y172) (1)
            rw [← ey182] at hk184 b185 b186
            have hk184 : (y181).toInt = (y172).toInt - (1 : Int) + k183 * 4294967296 := hk184
            obtain rfl : k183 = 0 := by omega
            have fx193 : V178 (q_tx) = some (.inr (9, [.ref (u8), .int (z9)])) := (o180 (q_tx) (hq_tne h_q_tx h_t (by simp))).trans ((hq166.2 (q_tx) _ h_q_tx rfl).trans ((hq28.2 (q_tx) _ h_q_tx rfl).trans (fx30)))
            refine hp_calli (hp_runV (As := [.int (y181)]) (rest := []) hx hb hml hown hts (t_X9_at l D cs B G  V178 n hP.1 _ (q_tx) h_q_tx (y181) ) hZ fx193 cv_X7_182 rfl rfl ⟨Nat.le_of_ble_eq_true rfl, Nat.le_of_ble_eq_true rfl⟩ rfl hl.1 rfl (Nat.le_of_ble_eq_true rfl) dX7_step_154 ⟨(Nat.le_of_ble_eq_true rfl), (Nat.le_of_ble_eq_true rfl)⟩) hZ (fun r190 V187 n188 _ _ hw189 hZ => ?_)
            obtain ⟨rfl, hq191, hr192⟩ := hw189
            have hP := hP.trans hq191 (fun _ _ => rfl)
            have b194 := hq_rng r190
            refine lv_bipush (v := 39) hx hb dX7_step_157 (by decide) ?_
            refine lv_icmp_ne (tgt := 166) hx hb dX7_step_159 (by decide) (fun c195 => ?_) (fun c195 => ?_)
            · have c195 : ¬ (r190).toInt = (39 : Int) := fun h9 => c195 (hq_eqi.mpr h9)
              refine lv_iconst (v := 0) hx hb dX7_step_166 (by decide) ?_
              refine lv_istore_n (lv' := [(2, .int (0)), (1, .int (r27)), (0, .ref (t))]) hx hb dX7_step_167 rfl hl (by decide) rfl (fun ls hl => ?_)
              refine lv_aload_n hx hb dX7_step_168 rfl (lv_at hl 2 rfl) ?_
              refine lv_iload_n hx hb dX7_step_169 rfl (lv_at hl 0 rfl) ?_
              refine lv_if_eq (tgt := 194) hx hb dX7_step_170 (by decide) (fun c196 => ?_) (fun c196 => absurd (by decide) c196)
              refine lv_bipush (v := 22) hx hb dX7_step_194 (by decide) ?_
              have fx197 : V187 (t) = some (.inr (7, [.int (q_fk), .int (q_fp), .ref (q_tx), .ref (q_ou), .int (y172), .int (q_tk), .int (st9), .ref (q_nm)])) := (hq191.2 (t) _ h_t rfl).trans (e179)
              refine hp_put hx hb hts hown hZ fx197 fp_X7_45 rfl rfl (Nat.le_of_ble_eq_true rfl) dX7_step_196 (fun V198 _ _ e199 o200 hZ => ?_)
              have e199 : V198 (t) = some (.inr (7, [.int (q_fk), .int (q_fp), .ref (q_tx), .ref (q_ou), .int (y172), .int (22), .int (st9), .ref (q_nm)])) := e199
              have hP := hP.put h_t e199 o200 (trivial) rfl
              refine lv_goto (tgt := 321) hx hb dX7_step_199 (by decide) ?_
              have hl201 : (22 : Int32).toInt = 22 := by decide
              exact hp_vret hx hb hr hlocks hZ ⟨rfl, hP, ⟨y172, 22, st9, e199, by omega⟩⟩ dX7_step_321
            · have c195 : (r190).toInt = (39 : Int) := hq_eqi.mp c195
              refine lv_iconst (v := 1) hx hb dX7_step_162 (by decide) ?_
              refine lv_goto (tgt := 167) hx hb dX7_step_163 (by decide) ?_
              refine lv_istore_n (lv' := [(2, .int (1)), (1, .int (r27)), (0, .ref (t))]) hx hb dX7_step_167 rfl hl (by decide) rfl (fun ls hl => ?_)
              refine lv_aload_n hx hb dX7_step_168 rfl (lv_at hl 2 rfl) ?_
              refine lv_iload_n hx hb dX7_step_169 rfl (lv_at hl 0 rfl) ?_
              refine lv_if_eq (tgt := 194) hx hb dX7_step_170 (by decide) (fun c202 => absurd c202 (by decide)) (fun c202 => ?_)
              refine lv_aload_n hx hb dX7_step_173 rfl (lv_at hl 2 rfl) ?_
              have fx203 : V187 (t) = some (.inr (7, [.int (q_fk), .int (q_fp), .ref (q_tx), .ref (q_ou), .int (y172), .int (q_tk), .int (st9), .ref (q_nm)])) := (hq191.2 (t) _ h_t rfl).trans (e179)
              refine hp_get (v := .int (y172)) hx hb hts hown hZ fx203 fl_X7_39 rfl dX7_step_174 ?_
              refine lv_aload_n hx hb dX7_step_177 rfl (lv_at hl 2 rfl) ?_
              refine hp_get (v := .int (st9)) hx hb hts hown hZ fx203 fl_X7_174 rfl dX7_step_178 ?_
              refine lv_isub hx hb dX7_step_181 ?_
              refine lv_topi (fun y204 ey205 => ?_)
              obtain ⟨k206, hk207, b208, b209⟩ := hq_sub (y172) (st9)
              rw [← ey205] at hk207 b208 b209
              have hk207 : (y204).toInt = (y172).toInt - (st9).toInt + k206 * 4294967296 := hk207
              obtain rfl : k206 = 0 := by omega
              refine lv_iconst (v := 2) hx hb dX7_step_182 (by decide) ?_
              refine lv_isub hx hb dX7_step_183 ?_
              refine lv_topi (fun y210 ey211 => ?_)
              obtain ⟨k212, hk213, b214, b215⟩ := hq_sub (y204) (2)
              rw [← ey211] at hk213 b214 b215
              have hk213 : (y210).toInt = (y204).toInt - (2 : Int) + k212 * 4294967296 := hk213
              obtain rfl : k212 = 0 := by omega
              refine lv_bipush (v := 8) hx hb dX7_step_184 (by decide) ?_
              refine lv_icmp_gt (tgt := 194) hx hb dX7_step_186 (by decide) (fun c216 => ?_) (fun c216 => ?_)
              · have c216 : (8 : Int) < (y210).toInt := hq_lti.mp c216
                refine lv_bipush (v := 22) hx hb dX7_step_194 (by decide) ?_
                refine hp_put hx hb hts hown hZ fx203 fp_X7_45 rfl rfl (Nat.le_of_ble_eq_true rfl) dX7_step_196 (fun V217 _ _ e218 o219 hZ => ?_)
                have e218 : V217 (t) = some (.inr (7, [.int (q_fk), .int (q_fp), .ref (q_tx), .ref (q_ou), .int (y172), .int (22), .int (st9), .ref (q_nm)])) := e218
                have hP := hP.put h_t e218 o219 (trivial) rfl
                refine lv_goto (tgt := 321) hx hb dX7_step_199 (by decide) ?_
                have hl220 : (22 : Int32).toInt = 22 := by decide
                exact hp_vret hx hb hr hlocks hZ ⟨rfl, hP, ⟨y172, 22, st9, e218, by omega⟩⟩ dX7_step_321
              · have c216 : ¬ (8 : Int) < (y210).toInt := fun h9 => c216 (hq_lti.mpr h9)
                refine lv_bipush (v := 19) hx hb dX7_step_189 (by decide) ?_
                refine lv_goto (tgt := 196) hx hb dX7_step_191 (by decide) ?_
                refine hp_put hx hb hts hown hZ fx203 fp_X7_45 rfl rfl (Nat.le_of_ble_eq_true rfl) dX7_step_196 (fun V221 _ _ e222 o223 hZ => ?_)
                have e222 : V221 (t) = some (.inr (7, [.int (q_fk), .int (q_fp), .ref (q_tx), .ref (q_ou), .int (y172), .int (19), .int (st9), .ref (q_nm)])) := e222
                have hP := hP.put h_t e222 o223 (trivial) rfl
                refine lv_goto (tgt := 321) hx hb dX7_step_199 (by decide) ?_
                have hl224 : (19 : Int32).toInt = 19 := by decide
                exact hp_vret hx hb hr hlocks hZ ⟨rfl, hP, ⟨y172, 19, st9, e222, by omega⟩⟩ dX7_step_321
        · have c33 : (r27).toInt = (59 : Int) := hq_eqi.mp c33
          refine lv_aload_n hx hb dX7_step_109 rfl (lv_at hl 1 rfl) ?_
          refine lv_bipush (v := 20) hx hb dX7_step_110 (by decide) ?_
          have fx225 : V24 (t) = some (.inr (7, [.int (q_fk), .int (q_fp), .ref (q_tx), .ref (q_ou), .int (y15), .int (q_tk), .int (st9), .ref (q_nm)])) := (hq28.2 (t) _ h_t rfl).trans (e22)
          refine hp_put hx hb hts hown hZ fx225 fp_X7_45 rfl rfl (Nat.le_of_ble_eq_true rfl) dX7_step_112 (fun V226 _ _ e227 o228 hZ => ?_)
          have e227 : V226 (t) = some (.inr (7, [.int (q_fk), .int (q_fp), .ref (q_tx), .ref (q_ou), .int (y15), .int (20), .int (st9), .ref (q_nm)])) := e227
          have hP := hP.put h_t e227 o228 (trivial) rfl
          refine lv_goto (tgt := 321) hx hb dX7_step_115 (by decide) ?_
          have hl229 : (20 : Int32).toInt = 20 := by decide
          exact hp_vret hx hb hr hlocks hZ ⟨rfl, hP, ⟨y15, 20, st9, e227, by omega⟩⟩ dX7_step_321
      · have c32 : (r27).toInt = (-1 : Int) := hq_eqi.mp c32
        refine lv_aload_n hx hb dX7_step_94 rfl (lv_at hl 1 rfl) ?_
        refine lv_bipush (v := 21) hx hb dX7_step_95 (by decide) ?_
        have fx230 : V24 (t) = some (.inr (7, [.int (q_fk), .int (q_fp), .ref (q_tx), .ref (q_ou), .int (y15), .int (q_tk), .int (st9), .ref (q_nm)])) := (hq28.2 (t) _ h_t rfl).trans (e22)
        refine hp_put hx hb hts hown hZ fx230 fp_X7_45 rfl rfl (Nat.le_of_ble_eq_true rfl) dX7_step_97 (fun V231 _ _ e232 o233 hZ => ?_)
        have e232 : V231 (t) = some (.inr (7, [.int (q_fk), .int (q_fp), .ref (q_tx), .ref (q_ou), .int (y15), .int (21), .int (st9), .ref (q_nm)])) := e232
        have hP := hP.put h_t e232 o233 (trivial) rfl
        refine lv_goto (tgt := 321) hx hb dX7_step_100 (by decide) ?_
        have hl234 : (21 : Int32).toInt = 21 := by decide
        exact hp_vret hx hb hr hlocks hZ ⟨rfl, hP, ⟨y15, 21, st9, e232, by omega⟩⟩ dX7_step_321
    · have c14 : ¬ (z9).toInt ≤ (st9).toInt := fun h9 => c14 (hq_lei.mpr h9)
      refine lv_aload_n hx hb dX7_step_22 rfl (lv_at hl 0 rfl) ?_
      refine hp_get (v := .ref (q_tx)) hx hb hts hown hZ ho4 fl_X7_27 rfl dX7_step_23 ?_
      refine lv_aload_n hx hb dX7_step_26 rfl (lv_at hl 0 rfl) ?_
      refine hp_get (v := .int (st9)) hx hb hts hown hZ ho4 fl_X7_174 rfl dX7_step_27 ?_
      refine hp_calli (hp_runV (As := [.int (st9)]) (rest := []) hx hb hml hown hts (t_X9_at l D cs B G  V9 n hP.1 _ (q_tx) h_q_tx (st9) ) hZ eV7 cv_X7_182 rfl rfl ⟨Nat.le_of_ble_eq_true rfl, Nat.le_of_ble_eq_true rfl⟩ rfl hl.1 rfl (Nat.le_of_ble_eq_true rfl) dX7_step_30 ⟨(Nat.le_of_ble_eq_true rfl), (Nat.le_of_ble_eq_true rfl)⟩) hZ (fun r238 V235 n236 _ _ hw237 hZ => ?_)
      obtain ⟨rfl, hq239, hr240⟩ := hw237
      have hP := hP.trans hq239 (fun _ _ => rfl)
      have b241 := hq_rng r238
      refine lv_bipush (v := 32) hx hb dX7_step_33 (by decide) ?_
      refine lv_icmp_eq (tgt := 54) hx hb dX7_step_35 (by decide) (fun c242 => ?_) (fun c242 => ?_)
      · have c242 : (r238).toInt = (32 : Int) := hq_eqi.mp c242
        refine lv_aload_n hx hb dX7_step_54 rfl (lv_at hl 0 rfl) ?_
        refine lv_dup hx hb dX7_step_55 rfl ?_
        have fx243 : V235 (t) = some (.inr (7, [.int (q_fk), .int (q_fp), .ref (q_tx), .ref (q_ou), .int (q_nx), .int (q_tk), .int (st9), .ref (q_nm)])) := (hq239.2 (t) _ h_t rfl).trans (ho4)
        refine hp_get (v := .int (st9)) hx hb hts hown hZ fx243 fl_X7_174 rfl dX7_step_56 ?_
        refine lv_iconst (v := 1) hx hb dX7_step_59 (by decide) ?_
        refine lv_iadd hx hb dX7_step_60 ?_
        refine lv_topi (fun y244 ey245 => ?_)
        obtain ⟨k246, hk247, b248, b249⟩ := hq_add (st9) (1)
        rw [← ey245] at hk247 b248 b249
        have hk247 : (y244).toInt = (st9).toInt + (1 : Int) + k246 * 4294967296 := hk247
        obtain rfl : k246 = 0 := by omega
        refine hp_put hx hb hts hown hZ fx243 fp_X7_174 rfl rfl (Nat.le_of_ble_eq_true rfl) dX7_step_61 (fun V250 _ _ e251 o252 hZ => ?_)
        have e251 : V250 (t) = some (.inr (7, [.int (q_fk), .int (q_fp), .ref (q_tx), .ref (q_ou), .int (q_nx), .int (q_tk), .int (y244), .ref (q_nm)])) := e251
        have hP := hP.put h_t e251 o252 (trivial) rfl
        refine lv_goto (tgt := 8) hx hb dX7_step_64 (by decide) ?_
        exact ih8 _ (by omega) _ _ _ ls  (y244) rfl hZ hP e251 (by omega) (by omega) (lv_sub hl [0] rfl)
      · have c242 : ¬ (r238).toInt = (32 : Int) := fun h9 => c242 (hq_eqi.mpr h9)
        refine lv_aload_n hx hb dX7_step_38 rfl (lv_at hl 0 rfl) ?_
        have fx253 : V235 (t) = some (.inr (7, [.int (q_fk), .int (q_fp), .ref (q_tx), .ref (q_ou), .int (q_nx), .int (q_tk), .int (st9), .ref (q_nm)])) := (hq239.2 (t) _ h_t rfl).trans (ho4)
        refine hp_get (v := .ref (q_tx)) hx hb hts hown hZ fx253 fl_X7_27 rfl dX7_step_39 ?_
        refine lv_aload_n hx hb dX7_step_42 rfl (lv_at hl 0 rfl) ?_
        refine hp_get (v := .int (st9)) hx hb hts hown hZ fx253 fl_X7_174 rfl dX7_step_43 ?_
        have fx260 : V235 (q_tx) = some (.inr (9, [.ref (u8), .int (z9)])) := (hq239.2 (q_tx) _ h_q_tx rfl).trans (eV7)
        refine hp_calli (hp_runV (As := [.int (st9)]) (rest := []) hx hb hml hown hts (t_X9_at l D cs B G  V235 n hP.1 _ (q_tx) h_q_tx (st9) ) hZ fx260 cv_X7_182 rfl rfl ⟨Nat.le_of_ble_eq_true rfl, Nat.le_of_ble_eq_true rfl⟩ rfl hl.1 rfl (Nat.le_of_ble_eq_true rfl) dX7_step_46 ⟨(Nat.le_of_ble_eq_true rfl), (Nat.le_of_ble_eq_true rfl)⟩) hZ (fun r257 V254 n255 _ _ hw256 hZ => ?_)
        obtain ⟨rfl, hq258, hr259⟩ := hw256
        have hP := hP.trans hq258 (fun _ _ => rfl)
        have b261 := hq_rng r257
        refine lv_bipush (v := 10) hx hb dX7_step_49 (by decide) ?_
        refine lv_icmp_ne (tgt := 67) hx hb dX7_step_51 (by decide) (fun c262 => ?_) (fun c262 => ?_)
        · have c262 : ¬ (r257).toInt = (10 : Int) := fun h9 => c262 (hq_eqi.mpr h9)
          refine lv_aload_n hx hb dX7_step_67 rfl (lv_at hl 0 rfl) ?_
          refine lv_aload_n hx hb dX7_step_68 rfl (lv_at hl 0 rfl) ?_
          have fx263 : V254 (t) = some (.inr (7, [.int (q_fk), .int (q_fp), .ref (q_tx), .ref (q_ou), .int (q_nx), .int (q_tk), .int (st9), .ref (q_nm)])) := (hq258.2 (t) _ h_t rfl).trans (fx253)
          refine hp_get (v := .int (st9)) hx hb hts hown hZ fx263 fl_X7_174 rfl dX7_step_69 ?_
          refine lv_iconst (v := 1) hx hb dX7_step_72 (by decide) ?_
          refine lv_iadd hx hb dX7_step_73 ?_
          refine lv_topi (fun y264 ey265 => ?_)
          obtain ⟨k266, hk267, b268, b269⟩ := hq_add (st9) (1)
          rw [← ey265] at hk267 b268 b269
          have hk267 : (y264).toInt = (st9).toInt + (1 : Int) + k266 * 4294967296 := hk267
          obtain rfl : k266 = 0 := by omega
          refine hp_put hx hb hts hown hZ fx263 fp_X7_39 rfl rfl (Nat.le_of_ble_eq_true rfl) dX7_step_74 (fun V270 _ _ e271 o272 hZ => ?_)
          have e271 : V270 (t) = some (.inr (7, [.int (q_fk), .int (q_fp), .ref (q_tx), .ref (q_ou), .int (y264), .int (q_tk), .int (st9), .ref (q_nm)])) := e271
          have hP := hP.put h_t e271 o272 (trivial) rfl
          refine lv_aload_n hx hb dX7_step_77 rfl (lv_at hl 0 rfl) ?_
          refine hp_get (v := .ref (q_tx)) hx hb hts hown hZ e271 fl_X7_27 rfl dX7_step_78 ?_
          refine lv_aload_n hx hb dX7_step_81 rfl (lv_at hl 0 rfl) ?_
          refine hp_get (v := .int (st9)) hx hb hts hown hZ e271 fl_X7_174 rfl dX7_step_82 ?_
          have fx279 : V270 (q_tx) = some (.inr (9, [.ref (u8), .int (z9)])) := (o272 (q_tx) (hq_tne h_q_tx h_t (by simp))).trans ((hq258.2 (q_tx) _ h_q_tx rfl).trans (fx260))
          refine hp_calli (hp_runV (As := [.int (st9)]) (rest := []) hx hb hml hown hts (t_X9_at l D cs B G  V270 n hP.1 _ (q_tx) h_q_tx (st9) ) hZ fx279 cv_X7_182 rfl rfl ⟨Nat.le_of_ble_eq_true rfl, Nat.le_of_ble_eq_true rfl⟩ rfl hl.1 rfl (Nat.le_of_ble_eq_true rfl) dX7_step_85 ⟨(Nat.le_of_ble_eq_true rfl), (Nat.le_of_ble_eq_true rfl)⟩) hZ (fun r276 V273 n274 _ _ hw275 hZ => ?_)
          obtain ⟨rfl, hq277, hr278⟩ := hw275
          have hP := hP.trans hq277 (fun _ _ => rfl)
          have b280 := hq_rng r276
          refine lv_istore_n (lv' := [(1, .int (r276)), (0, .ref (t))]) hx hb dX7_step_88 rfl hl (by decide) rfl (fun ls hl => ?_)
          refine lv_iload_n hx hb dX7_step_89 rfl (lv_at hl 0 rfl) ?_
          refine lv_iconst (v := -1) hx hb dX7_step_90 (by decide) ?_
          refine lv_icmp_ne (tgt := 103) hx hb dX7_step_91 (by decide) (fun c281 => ?_) (fun c281 => ?_)
          · have c281 : ¬ (r276).toInt = (-1 : Int) := fun h9 => c281 (hq_eqi.mpr h9)
            refine lv_iload_n hx hb dX7_step_103 rfl (lv_at hl 0 rfl) ?_
            refine lv_bipush (v := 59) hx hb dX7_step_104 (by decide) ?_
            refine lv_icmp_ne (tgt := 118) hx hb dX7_step_106 (by decide) (fun c282 => ?_) (fun c282 => ?_)
            · have c282 : ¬ (r276).toInt = (59 : Int) := fun h9 => c282 (hq_eqi.mpr h9)
              refine lv_iload_n hx hb dX7_step_118 rfl (lv_at hl 0 rfl) ?_
              refine lv_bipush (v := 39) hx hb dX7_step_119 (by decide) ?_
              refine lv_icmp_ne (tgt := 202) hx hb dX7_step_121 (by decide) (fun c283 => ?_) (fun c283 => ?_)
              · have c283 : ¬ (r276).toInt = (39 : Int) := fun h9 => c283 (hq_eqi.mpr h9)
                refine lv_iload_n hx hb dX7_step_202 rfl (lv_at hl 0 rfl) ?_
                refine lv_bipush (v := 97) hx hb dX7_step_203 (by decide) ?_
                refine lv_icmp_lt (tgt := 260) hx hb dX7_step_205 (by decide) (fun c284 => ?_) (fun c284 => ?_)
                · have c284 : (r276).toInt < (97 : Int) := hq_lti.mp c284
                  refine lv_iload_n hx hb dX7_step_260 rfl (lv_at hl 0 rfl) ?_
                  refine lv_bipush (v := 48) hx hb dX7_step_261 (by decide) ?_
                  refine lv_icmp_lt (tgt := 315) hx hb dX7_step_263 (by decide) (fun c285 => ?_) (fun c285 => ?_)
                  · have c285 : (r276).toInt < (48 : Int) := hq_lti.mp c285
                    refine lv_aload_n hx hb dX7_step_315 rfl (lv_at hl 1 rfl) ?_
                    refine lv_bipush (v := 22) hx hb dX7_step_316 (by decide) ?_
                    have fx286 : V273 (t) = some (.inr (7, [.int (q_fk), .int (q_fp), .ref (q_tx), .ref (q_ou), .int (y264), .int (q_tk), .int (st9), .ref (q_nm)])) := (hq277.2 (t) _ h_t rfl).trans (e271)
                    refine hp_put hx hb hts hown hZ fx286 fp_X7_45 rfl rfl (Nat.le_of_ble_eq_true rfl) dX7_step_318 (fun V287 _ _ e288 o289 hZ => ?_)
                    have e288 : V287 (t) = some (.inr (7, [.int (q_fk), .int (q_fp), .ref (q_tx), .ref (q_ou), .int (y264), .int (22), .int (st9), .ref (q_nm)])) := e288
                    have hP := hP.put h_t e288 o289 (trivial) rfl
                    have hl290 : (22 : Int32).toInt = 22 := by decide
                    exact hp_vret hx hb hr hlocks hZ ⟨rfl, hP, ⟨y264, 22, st9, e288, by omega⟩⟩ dX7_step_321
                  · have c285 : ¬ (r276).toInt < (48 : Int) := fun h9 => c285 (hq_lti.mpr h9)
                    refine lv_iload_n hx hb dX7_step_266 rfl (lv_at hl 0 rfl) ?_
                    refine lv_bipush (v := 57) hx hb dX7_step_267 (by decide) ?_
                    refine lv_icmp_gt (tgt := 315) hx hb dX7_step_269 (by decide) (fun c291 => ?_) (fun c291 => ?_)
                    · have c291 : (57 : Int) < (r276).toInt := hq_lti.mp c291
                      refine lv_aload_n hx hb dX7_step_315 rfl (lv_at hl 1 rfl) ?_
                      refine lv_bipush (v := 22) hx hb dX7_step_316 (by decide) ?_
                      have fx292 : V273 (t) = some (.inr (7, [.int (q_fk), .int (q_fp), .ref (q_tx), .ref (q_ou), .int (y264), .int (q_tk), .int (st9), .ref (q_nm)])) := (hq277.2 (t) _ h_t rfl).trans (e271)
                      refine hp_put hx hb hts hown hZ fx292 fp_X7_45 rfl rfl (Nat.le_of_ble_eq_true rfl) dX7_step_318 (fun V293 _ _ e294 o295 hZ => ?_)
                      have e294 : V293 (t) = some (.inr (7, [.int (q_fk), .int (q_fp), .ref (q_tx), .ref (q_ou), .int (y264), .int (22), .int (st9), .ref (q_nm)])) := e294
                      have hP := hP.put h_t e294 o295 (trivial) rfl
                      have hl296 : (22 : Int32).toInt = 22 := by decide
                      exact hp_vret hx hb hr hlocks hZ ⟨rfl, hP, ⟨y264, 22, st9, e294, by omega⟩⟩ dX7_step_321
                    · have c291 : ¬ (57 : Int) < (r276).toInt := fun h9 => c291 (hq_lti.mpr h9)
                      refine lv_aload_n hx hb dX7_step_272 rfl (lv_at hl 1 rfl) ?_
                      refine lv_aload_n hx hb dX7_step_273 rfl (lv_at hl 1 rfl) ?_
                      refine lv_aload_n hx hb dX7_step_274 rfl (lv_at hl 1 rfl) ?_
                      have fx297 : V273 (t) = some (.inr (7, [.int (q_fk), .int (q_fp), .ref (q_tx), .ref (q_ou), .int (y264), .int (q_tk), .int (st9), .ref (q_nm)])) := (hq277.2 (t) _ h_t rfl).trans (e271)
                      refine hp_get (v := .int (st9)) hx hb hts hown hZ fx297 fl_X7_174 rfl dX7_step_275 ?_
                      refine lv_bipush (v := 48) hx hb dX7_step_278 (by decide) ?_
                      refine lv_bipush (v := 57) hx hb dX7_step_280 (by decide) ?_
                      have hl305 : (48 : Int32).toInt = 48 := by decide
                      have hl306 : (57 : Int32).toInt = 57 := by decide
                      refine hp_calli (hp_runV (As := [.int (st9), .int (48), .int (57)]) (rest := [.ref (t)]) hx hb hml hown hts (t_X7_runEnd_1 l D cs B G  V273 n hP.1  (t) h_t (st9) (48) (57) fx297 h_q_tx h_q_ou h_q_nm (by omega) (by omega)) hZ fx297 cv_X7_195 rfl rfl ⟨Nat.le_of_ble_eq_true rfl, Nat.le_of_ble_eq_true rfl⟩ rfl hl.1 rfl (Nat.le_of_ble_eq_true rfl) dX7_step_282 ⟨(Nat.le_of_ble_eq_true rfl), (Nat.le_of_ble_eq_true rfl)⟩) hZ (fun r301 V298 n299 _ _ hw300 hZ => ?_)
                      obtain ⟨rfl, hq302, ho304, hr303⟩ := hw300
                      have hP := hP.trans hq302 (fun _ _ => rfl)
                      have b307 := hq_rng r301
                      refine hp_put hx hb hts hown hZ ho304 fp_X7_39 rfl rfl (Nat.le_of_ble_eq_true rfl) dX7_step_285 (fun V308 _ _ e309 o310 hZ => ?_)
                      have e309 : V308 (t) = some (.inr (7, [.int (q_fk), .int (q_fp), .ref (q_tx), .ref (q_ou), .int (r301), .int (q_tk), .int (st9), .ref (q_nm)])) := e309
                      have hP := hP.put h_t e309 o310 (trivial) rfl
                      refine lv_aload_n hx hb dX7_step_288 rfl (lv_at hl 1 rfl) ?_
                      refine lv_aload_n hx hb dX7_step_289 rfl (lv_at hl 1 rfl) ?_
                      refine hp_get (v := .int (r301)) hx hb hts hown hZ e309 fl_X7_39 rfl dX7_step_290 ?_
                      refine lv_aload_n hx hb dX7_step_293 rfl (lv_at hl 1 rfl) ?_
                      refine hp_get (v := .int (st9)) hx hb hts hown hZ e309 fl_X7_174 rfl dX7_step_294 ?_
                      refine lv_isub hx hb dX7_step_297 ?_
                      refine lv_topi (fun y311 ey312 => ?_)
                      obtain ⟨k313, hk314, b315, b316⟩ := hq_sub (r301) (st9)
                      rw [← ey312] at hk314 b315 b316
                      have hk314 : (y311).toInt = (r301).toInt - (st9).toInt + k313 * 4294967296 := hk314
                      obtain rfl : k313 = 0 := by omega
                      refine lv_iconst (v := 1) hx hb dX7_step_298 (by decide) ?_
                      refine lv_icmp_ne (tgt := 307) hx hb dX7_step_299 (by decide) (fun c317 => ?_) (fun c317 => ?_)
                      · have c317 : ¬ (y311).toInt = (1 : Int) := fun h9 => c317 (hq_eqi.mpr h9)
                        refine lv_bipush (v := 22) hx hb dX7_step_307 (by decide) ?_
                        refine hp_put hx hb hts hown hZ e309 fp_X7_45 rfl rfl (Nat.le_of_ble_eq_true rfl) dX7_step_309 (fun V318 _ _ e319 o320 hZ => ?_)
                        have e319 : V318 (t) = some (.inr (7, [.int (q_fk), .int (q_fp), .ref (q_tx), .ref (q_ou), .int (r301), .int (22), .int (st9), .ref (q_nm)])) := e319
                        have hP := hP.put h_t e319 o320 (trivial) rfl
                        refine lv_goto (tgt := 321) hx hb dX7_step_312 (by decide) ?_
                        have hl321 : (22 : Int32).toInt = 22 := by decide
                        exact hp_vret hx hb hr hlocks hZ ⟨rfl, hP, ⟨r301, 22, st9, e319, by omega⟩⟩ dX7_step_321
                      · have c317 : (y311).toInt = (1 : Int) := hq_eqi.mp c317
                        refine lv_bipush (v := 18) hx hb dX7_step_302 (by decide) ?_
                        refine lv_goto (tgt := 309) hx hb dX7_step_304 (by decide) ?_
                        refine hp_put hx hb hts hown hZ e309 fp_X7_45 rfl rfl (Nat.le_of_ble_eq_true rfl) dX7_step_309 (fun V322 _ _ e323 o324 hZ => ?_)
                        have e323 : V322 (t) = some (.inr (7, [.int (q_fk), .int (q_fp), .ref (q_tx), .ref (q_ou), .int (r301), .int (18), .int (st9), .ref (q_nm)])) := e323
                        have hP := hP.put h_t e323 o324 (trivial) rfl
                        refine lv_goto (tgt := 321) hx hb dX7_step_312 (by decide) ?_
                        have hl325 : (18 : Int32).toInt = 18 := by decide
                        exact hp_vret hx hb hr hlocks hZ ⟨rfl, hP, ⟨r301, 18, st9, e323, by omega⟩⟩ dX7_step_321
                · have c284 : ¬ (r276).toInt < (97 : Int) := fun h9 => c284 (hq_lti.mpr h9)
                  refine lv_iload_n hx hb dX7_step_208 rfl (lv_at hl 0 rfl) ?_
                  refine lv_bipush (v := 122) hx hb dX7_step_209 (by decide) ?_
                  refine lv_icmp_gt (tgt := 260) hx hb dX7_step_211 (by decide) (fun c326 => ?_) (fun c326 => ?_)
                  · have c326 : (122 : Int) < (r276).toInt := hq_lti.mp c326
                    refine lv_iload_n hx hb dX7_step_260 rfl (lv_at hl 0 rfl) ?_
                    refine lv_bipush (v := 48) hx hb dX7_step_261 (by decide) ?_
                    refine lv_icmp_lt (tgt := 315) hx hb dX7_step_263 (by decide) (fun c327 => ?_) (fun c327 => ?_)
                    · have c327 : (r276).toInt < (48 : Int) := hq_lti.mp c327
                      refine lv_aload_n hx hb dX7_step_315 rfl (lv_at hl 1 rfl) ?_
                      refine lv_bipush (v := 22) hx hb dX7_step_316 (by decide) ?_
                      have fx328 : V273 (t) = some (.inr (7, [.int (q_fk), .int (q_fp), .ref (q_tx), .ref (q_ou), .int (y264), .int (q_tk), .int (st9), .ref (q_nm)])) := (hq277.2 (t) _ h_t rfl).trans (e271)
                      refine hp_put hx hb hts hown hZ fx328 fp_X7_45 rfl rfl (Nat.le_of_ble_eq_true rfl) dX7_step_318 (fun V329 _ _ e330 o331 hZ => ?_)
                      have e330 : V329 (t) = some (.inr (7, [.int (q_fk), .int (q_fp), .ref (q_tx), .ref (q_ou), .int (y264), .int (22), .int (st9), .ref (q_nm)])) := e330
                      have hP := hP.put h_t e330 o331 (trivial) rfl
                      have hl332 : (22 : Int32).toInt = 22 := by decide
                      exact hp_vret hx hb hr hlocks hZ ⟨rfl, hP, ⟨y264, 22, st9, e330, by omega⟩⟩ dX7_step_321
                    · have c327 : ¬ (r276).toInt < (48 : Int) := fun h9 => c327 (hq_lti.mpr h9)
                      refine lv_iload_n hx hb dX7_step_266 rfl (lv_at hl 0 rfl) ?_
                      refine lv_bipush (v := 57) hx hb dX7_step_267 (by decide) ?_
                      refine lv_icmp_gt (tgt := 315) hx hb dX7_step_269 (by decide) (fun c333 => ?_) (fun c333 => ?_)
                      · have c333 : (57 : Int) < (r276).toInt := hq_lti.mp c333
                        refine lv_aload_n hx hb dX7_step_315 rfl (lv_at hl 1 rfl) ?_
                        refine lv_bipush (v := 22) hx hb dX7_step_316 (by decide) ?_
                        have fx334 : V273 (t) = some (.inr (7, [.int (q_fk), .int (q_fp), .ref (q_tx), .ref (q_ou), .int (y264), .int (q_tk), .int (st9), .ref (q_nm)])) := (hq277.2 (t) _ h_t rfl).trans (e271)
                        refine hp_put hx hb hts hown hZ fx334 fp_X7_45 rfl rfl (Nat.le_of_ble_eq_true rfl) dX7_step_318 (fun V335 _ _ e336 o337 hZ => ?_)
                        have e336 : V335 (t) = some (.inr (7, [.int (q_fk), .int (q_fp), .ref (q_tx), .ref (q_ou), .int (y264), .int (22), .int (st9), .ref (q_nm)])) := e336
                        have hP := hP.put h_t e336 o337 (trivial) rfl
                        have hl338 : (22 : Int32).toInt = 22 := by decide
                        exact hp_vret hx hb hr hlocks hZ ⟨rfl, hP, ⟨y264, 22, st9, e336, by omega⟩⟩ dX7_step_321
                      · have c333 : ¬ (57 : Int) < (r276).toInt := fun h9 => c333 (hq_lti.mpr h9)
                        refine lv_aload_n hx hb dX7_step_272 rfl (lv_at hl 1 rfl) ?_
                        refine lv_aload_n hx hb dX7_step_273 rfl (lv_at hl 1 rfl) ?_
                        refine lv_aload_n hx hb dX7_step_274 rfl (lv_at hl 1 rfl) ?_
                        have fx339 : V273 (t) = some (.inr (7, [.int (q_fk), .int (q_fp), .ref (q_tx), .ref (q_ou), .int (y264), .int (q_tk), .int (st9), .ref (q_nm)])) := (hq277.2 (t) _ h_t rfl).trans (e271)
                        refine hp_get (v := .int (st9)) hx hb hts hown hZ fx339 fl_X7_174 rfl dX7_step_275 ?_
                        refine lv_bipush (v := 48) hx hb dX7_step_278 (by decide) ?_
                        refine lv_bipush (v := 57) hx hb dX7_step_280 (by decide) ?_
                        have hl347 : (48 : Int32).toInt = 48 := by decide
                        have hl348 : (57 : Int32).toInt = 57 := by decide
                        refine hp_calli (hp_runV (As := [.int (st9), .int (48), .int (57)]) (rest := [.ref (t)]) hx hb hml hown hts (t_X7_runEnd_1 l D cs B G  V273 n hP.1  (t) h_t (st9) (48) (57) fx339 h_q_tx h_q_ou h_q_nm (by omega) (by omega)) hZ fx339 cv_X7_195 rfl rfl ⟨Nat.le_of_ble_eq_true rfl, Nat.le_of_ble_eq_true rfl⟩ rfl hl.1 rfl (Nat.le_of_ble_eq_true rfl) dX7_step_282 ⟨(Nat.le_of_ble_eq_true rfl), (Nat.le_of_ble_eq_true rfl)⟩) hZ (fun r343 V340 n341 _ _ hw342 hZ => ?_)
                        obtain ⟨rfl, hq344, ho346, hr345⟩ := hw342
                        have hP := hP.trans hq344 (fun _ _ => rfl)
                        have b349 := hq_rng r343
                        refine hp_put hx hb hts hown hZ ho346 fp_X7_39 rfl rfl (Nat.le_of_ble_eq_true rfl) dX7_step_285 (fun V350 _ _ e351 o352 hZ => ?_)
                        have e351 : V350 (t) = some (.inr (7, [.int (q_fk), .int (q_fp), .ref (q_tx), .ref (q_ou), .int (r343), .int (q_tk), .int (st9), .ref (q_nm)])) := e351
                        have hP := hP.put h_t e351 o352 (trivial) rfl
                        refine lv_aload_n hx hb dX7_step_288 rfl (lv_at hl 1 rfl) ?_
                        refine lv_aload_n hx hb dX7_step_289 rfl (lv_at hl 1 rfl) ?_
                        refine hp_get (v := .int (r343)) hx hb hts hown hZ e351 fl_X7_39 rfl dX7_step_290 ?_
                        refine lv_aload_n hx hb dX7_step_293 rfl (lv_at hl 1 rfl) ?_
                        refine hp_get (v := .int (st9)) hx hb hts hown hZ e351 fl_X7_174 rfl dX7_step_294 ?_
                        refine lv_isub hx hb dX7_step_297 ?_
                        refine lv_topi (fun y353 ey354 => ?_)
                        obtain ⟨k355, hk356, b357, b358⟩ := hq_sub (r343) (st9)
                        rw [← ey354] at hk356 b357 b358
                        have hk356 : (y353).toInt = (r343).toInt - (st9).toInt + k355 * 4294967296 := hk356
                        obtain rfl : k355 = 0 := by omega
                        refine lv_iconst (v := 1) hx hb dX7_step_298 (by decide) ?_
                        refine lv_icmp_ne (tgt := 307) hx hb dX7_step_299 (by decide) (fun c359 => ?_) (fun c359 => ?_)
                        · have c359 : ¬ (y353).toInt = (1 : Int) := fun h9 => c359 (hq_eqi.mpr h9)
                          refine lv_bipush (v := 22) hx hb dX7_step_307 (by decide) ?_
                          refine hp_put hx hb hts hown hZ e351 fp_X7_45 rfl rfl (Nat.le_of_ble_eq_true rfl) dX7_step_309 (fun V360 _ _ e361 o362 hZ => ?_)
                          have e361 : V360 (t) = some (.inr (7, [.int (q_fk), .int (q_fp), .ref (q_tx), .ref (q_ou), .int (r343), .int (22), .int (st9), .ref (q_nm)])) := e361
                          have hP := hP.put h_t e361 o362 (trivial) rfl
                          refine lv_goto (tgt := 321) hx hb dX7_step_312 (by decide) ?_
                          have hl363 : (22 : Int32).toInt = 22 := by decide
                          exact hp_vret hx hb hr hlocks hZ ⟨rfl, hP, ⟨r343, 22, st9, e361, by omega⟩⟩ dX7_step_321
                        · have c359 : (y353).toInt = (1 : Int) := hq_eqi.mp c359
                          refine lv_bipush (v := 18) hx hb dX7_step_302 (by decide) ?_
                          refine lv_goto (tgt := 309) hx hb dX7_step_304 (by decide) ?_
                          refine hp_put hx hb hts hown hZ e351 fp_X7_45 rfl rfl (Nat.le_of_ble_eq_true rfl) dX7_step_309 (fun V364 _ _ e365 o366 hZ => ?_)
                          have e365 : V364 (t) = some (.inr (7, [.int (q_fk), .int (q_fp), .ref (q_tx), .ref (q_ou), .int (r343), .int (18), .int (st9), .ref (q_nm)])) := e365
                          have hP := hP.put h_t e365 o366 (trivial) rfl
                          refine lv_goto (tgt := 321) hx hb dX7_step_312 (by decide) ?_
                          have hl367 : (18 : Int32).toInt = 18 := by decide
                          exact hp_vret hx hb hr hlocks hZ ⟨rfl, hP, ⟨r343, 18, st9, e365, by omega⟩⟩ dX7_step_321
                  · have c326 : ¬ (122 : Int) < (r276).toInt := fun h9 => c326 (hq_lti.mpr h9)
                    refine lv_aload_n hx hb dX7_step_214 rfl (lv_at hl 1 rfl) ?_
                    refine lv_aload_n hx hb dX7_step_215 rfl (lv_at hl 1 rfl) ?_
                    refine lv_aload_n hx hb dX7_step_216 rfl (lv_at hl 1 rfl) ?_
                    have fx368 : V273 (t) = some (.inr (7, [.int (q_fk), .int (q_fp), .ref (q_tx), .ref (q_ou), .int (y264), .int (q_tk), .int (st9), .ref (q_nm)])) := (hq277.2 (t) _ h_t rfl).trans (e271)
                    refine hp_get (v := .int (st9)) hx hb hts hown hZ fx368 fl_X7_174 rfl dX7_step_217 ?_
                    refine lv_bipush (v := 97) hx hb dX7_step_220 (by decide) ?_
                    refine lv_bipush (v := 122) hx hb dX7_step_222 (by decide) ?_
                    have hl376 : (97 : Int32).toInt = 97 := by decide
                    have hl377 : (122 : Int32).toInt = 122 := by decide
                    refine hp_calli (hp_runV (As := [.int (st9), .int (97), .int (122)]) (rest := [.ref (t)]) hx hb hml hown hts (t_X7_runEnd_1 l D cs B G  V273 n hP.1  (t) h_t (st9) (97) (122) fx368 h_q_tx h_q_ou h_q_nm (by omega) (by omega)) hZ fx368 cv_X7_195 rfl rfl ⟨Nat.le_of_ble_eq_true rfl, Nat.le_of_ble_eq_true rfl⟩ rfl hl.1 rfl (Nat.le_of_ble_eq_true rfl) dX7_step_224 ⟨(Nat.le_of_ble_eq_true rfl), (Nat.le_of_ble_eq_true rfl)⟩) hZ (fun r372 V369 n370 _ _ hw371 hZ => ?_)
                    obtain ⟨rfl, hq373, ho375, hr374⟩ := hw371
                    have hP := hP.trans hq373 (fun _ _ => rfl)
                    have b378 := hq_rng r372
                    refine hp_put hx hb hts hown hZ ho375 fp_X7_39 rfl rfl (Nat.le_of_ble_eq_true rfl) dX7_step_227 (fun V379 _ _ e380 o381 hZ => ?_)
                    have e380 : V379 (t) = some (.inr (7, [.int (q_fk), .int (q_fp), .ref (q_tx), .ref (q_ou), .int (r372), .int (q_tk), .int (st9), .ref (q_nm)])) := e380
                    have hP := hP.put h_t e380 o381 (trivial) rfl
                    refine lv_aload_n hx hb dX7_step_230 rfl (lv_at hl 1 rfl) ?_
                    refine lv_aload_n hx hb dX7_step_231 rfl (lv_at hl 1 rfl) ?_
                    refine hp_get (v := .int (r372)) hx hb hts hown hZ e380 fl_X7_39 rfl dX7_step_232 ?_
                    refine lv_aload_n hx hb dX7_step_235 rfl (lv_at hl 1 rfl) ?_
                    refine hp_get (v := .int (st9)) hx hb hts hown hZ e380 fl_X7_174 rfl dX7_step_236 ?_
                    refine lv_isub hx hb dX7_step_239 ?_
                    refine lv_topi (fun y382 ey383 => ?_)
                    obtain ⟨k384, hk385, b386, b387⟩ := hq_sub (r372) (st9)
                    rw [← ey383] at hk385 b386 b387
                    have hk385 : (y382).toInt = (r372).toInt - (st9).toInt + k384 * 4294967296 := hk385
                    obtain rfl : k384 = 0 := by omega
                    refine lv_bipush (v := 12) hx hb dX7_step_240 (by decide) ?_
                    refine lv_icmp_gt (tgt := 252) hx hb dX7_step_242 (by decide) (fun c388 => ?_) (fun c388 => ?_)
                    · have c388 : (12 : Int) < (y382).toInt := hq_lti.mp c388
                      refine lv_bipush (v := 22) hx hb dX7_step_252 (by decide) ?_
                      refine hp_put hx hb hts hown hZ e380 fp_X7_45 rfl rfl (Nat.le_of_ble_eq_true rfl) dX7_step_254 (fun V389 _ _ e390 o391 hZ => ?_)
                      have e390 : V389 (t) = some (.inr (7, [.int (q_fk), .int (q_fp), .ref (q_tx), .ref (q_ou), .int (r372), .int (22), .int (st9), .ref (q_nm)])) := e390
                      have hP := hP.put h_t e390 o391 (trivial) rfl
                      refine lv_goto (tgt := 321) hx hb dX7_step_257 (by decide) ?_
                      have hl392 : (22 : Int32).toInt = 22 := by decide
                      exact hp_vret hx hb hr hlocks hZ ⟨rfl, hP, ⟨r372, 22, st9, e390, by omega⟩⟩ dX7_step_321
                    · have c388 : ¬ (12 : Int) < (y382).toInt := fun h9 => c388 (hq_lti.mpr h9)
                      refine lv_aload_n hx hb dX7_step_245 rfl (lv_at hl 1 rfl) ?_
                      refine hp_calli (hp_runV (As := []) (rest := [.ref (t)]) hx hb hml hown hts (t_X7_wordNumber_1 l D cs B G  V379 n hP.1  (t) h_t e380 h_q_tx h_q_ou h_q_nm ) hZ e380 cv_X7_199 rfl rfl ⟨Nat.le_of_ble_eq_true rfl, Nat.le_of_ble_eq_true rfl⟩ rfl hl.1 rfl (Nat.le_of_ble_eq_true rfl) dX7_step_246 ⟨(Nat.le_of_ble_eq_true rfl), (Nat.le_of_ble_eq_true rfl)⟩) hZ (fun r396 V393 n394 _ _ hw395 hZ => ?_)
                      obtain ⟨rfl, hq397, ho399, hr398⟩ := hw395
                      have hP := hP.trans hq397 (fun _ _ => rfl)
                      have b400 := hq_rng r396
                      refine lv_goto (tgt := 254) hx hb dX7_step_249 (by decide) ?_
                      refine hp_put hx hb hts hown hZ ho399 fp_X7_45 rfl rfl (Nat.le_of_ble_eq_true rfl) dX7_step_254 (fun V401 _ _ e402 o403 hZ => ?_)
                      have e402 : V401 (t) = some (.inr (7, [.int (q_fk), .int (q_fp), .ref (q_tx), .ref (q_ou), .int (r372), .int (r396), .int (st9), .ref (q_nm)])) := e402
                      have hP := hP.put h_t e402 o403 (trivial) rfl
                      refine lv_goto (tgt := 321) hx hb dX7_step_257 (by decide) ?_
                      exact hp_vret hx hb hr hlocks hZ ⟨rfl, hP, ⟨r372, r396, st9, e402, by omega⟩⟩ dX7_step_321
              · have c283 : (r276).toInt = (39 : Int) := hq_eqi.mp c283
                refine lv_aload_n hx hb dX7_step_124 rfl (lv_at hl 1 rfl) ?_
                refine lv_aload_n hx hb dX7_step_125 rfl (lv_at hl 1 rfl) ?_
                refine lv_aload_n hx hb dX7_step_126 rfl (lv_at hl 1 rfl) ?_
                have fx404 : V273 (t) = some (.inr (7, [.int (q_fk), .int (q_fp), .ref (q_tx), .ref (q_ou), .int (y264), .int (q_tk), .int (st9), .ref (q_nm)])) := (hq277.2 (t) _ h_t rfl).trans (e271)
                refine hp_get (v := .int (st9)) hx hb hts hown hZ fx404 fl_X7_174 rfl dX7_step_127 ?_
                refine lv_iconst (v := 1) hx hb dX7_step_130 (by decide) ?_
                refine lv_iadd hx hb dX7_step_131 ?_
                refine lv_topi (fun y405 ey406 => ?_)
                obtain ⟨k407, hk408, b409, b410⟩ := hq_add (st9) (1)
                rw [← ey406] at hk408 b409 b410
                have hk408 : (y405).toInt = (st9).toInt + (1 : Int) + k407 * 4294967296 := hk408
                obtain rfl : k407 = 0 := by omega
                refine lv_bipush (v := 97) hx hb dX7_step_132 (by decide) ?_
                refine lv_bipush (v := 122) hx hb dX7_step_134 (by decide) ?_
                have hl418 : (97 : Int32).toInt = 97 := by decide
                have hl419 : (122 : Int32).toInt = 122 := by decide
                refine hp_calli (hp_runV (As := [.int (y405), .int (97), .int (122)]) (rest := [.ref (t)]) hx hb hml hown hts (t_X7_runEnd_1 l D cs B G  V273 n hP.1  (t) h_t (y405) (97) (122) fx404 h_q_tx h_q_ou h_q_nm (by omega) (by omega)) hZ fx404 cv_X7_195 rfl rfl ⟨Nat.le_of_ble_eq_true rfl, Nat.le_of_ble_eq_true rfl⟩ rfl hl.1 rfl (Nat.le_of_ble_eq_true rfl) dX7_step_136 ⟨(Nat.le_of_ble_eq_true rfl), (Nat.le_of_ble_eq_true rfl)⟩) hZ (fun r414 V411 n412 _ _ hw413 hZ => ?_)
                obtain ⟨rfl, hq415, ho417, hr416⟩ := hw413
                have hP := hP.trans hq415 (fun _ _ => rfl)
                have b420 := hq_rng r414
                refine lv_iconst (v := 1) hx hb dX7_step_139 (by decide) ?_
                refine lv_iadd hx hb dX7_step_140 ?_
                refine lv_topi (fun y421 ey422 => ?_)
                obtain ⟨k423, hk424, b425, b426⟩ := hq_add (r414) (1)
                rw [← ey422] at hk424 b425 b426
                have hk424 : (y421).toInt = (r414).toInt + (1 : Int) + k423 * 4294967296 := hk424
                obtain rfl : k423 = 0 := by omega
                refine hp_put hx hb hts hown hZ ho417 fp_X7_39 rfl rfl (Nat.le_of_ble_eq_true rfl) dX7_step_141 (fun V427 _ _ e428 o429 hZ => ?_)
                have e428 : V427 (t) = some (.inr (7, [.int (q_fk), .int (q_fp), .ref (q_tx), .ref (q_ou), .int (y421), .int (q_tk), .int (st9), .ref (q_nm)])) := e428
                have hP := hP.put h_t e428 o429 (trivial) rfl
                refine lv_aload_n hx hb dX7_step_144 rfl (lv_at hl 1 rfl) ?_
                refine hp_get (v := .ref (q_tx)) hx hb hts hown hZ e428 fl_X7_27 rfl dX7_step_145 ?_
                refine lv_aload_n hx hb dX7_step_148 rfl (lv_at hl 1 rfl) ?_
                refine hp_get (v := .int (y421)) hx hb hts hown hZ e428 fl_X7_39 rfl dX7_step_149 ?_
                refine lv_iconst (v := 1) hx hb dX7_step_152 (by decide) ?_
                refine lv_isub hx hb dX7_step_153 ?_
                refine lv_topi (fun y430 ey431 => ?_)
                obtain ⟨k432, hk433, b434, b435⟩ := hq_sub (y421) (1)
                rw [← ey431] at hk433 b434 b435
                have hk433 : (y430).toInt = (y421).toInt - (1 : Int) + k432 * 4294967296 := hk433
                obtain rfl : k432 = 0 := by omega
                have fx442 : V427 (q_tx) = some (.inr (9, [.ref (u8), .int (z9)])) := (o429 (q_tx) (hq_tne h_q_tx h_t (by simp))).trans ((hq415.2 (q_tx) _ h_q_tx rfl).trans ((hq277.2 (q_tx) _ h_q_tx rfl).trans (fx279)))
                refine hp_calli (hp_runV (As := [.int (y430)]) (rest := []) hx hb hml hown hts (t_X9_at l D cs B G  V427 n hP.1 _ (q_tx) h_q_tx (y430) ) hZ fx442 cv_X7_182 rfl rfl ⟨Nat.le_of_ble_eq_true rfl, Nat.le_of_ble_eq_true rfl⟩ rfl hl.1 rfl (Nat.le_of_ble_eq_true rfl) dX7_step_154 ⟨(Nat.le_of_ble_eq_true rfl), (Nat.le_of_ble_eq_true rfl)⟩) hZ (fun r439 V436 n437 _ _ hw438 hZ => ?_)
                obtain ⟨rfl, hq440, hr441⟩ := hw438
                have hP := hP.trans hq440 (fun _ _ => rfl)
                have b443 := hq_rng r439
                refine lv_bipush (v := 39) hx hb dX7_step_157 (by decide) ?_
                refine lv_icmp_ne (tgt := 166) hx hb dX7_step_159 (by decide) (fun c444 => ?_) (fun c444 => ?_)
                · have c444 : ¬ (r439).toInt = (39 : Int) := fun h9 => c444 (hq_eqi.mpr h9)
                  refine lv_iconst (v := 0) hx hb dX7_step_166 (by decide) ?_
                  refine lv_istore_n (lv' := [(2, .int (0)), (1, .int (r276)), (0, .ref (t))]) hx hb dX7_step_167 rfl hl (by decide) rfl (fun ls hl => ?_)
                  refine lv_aload_n hx hb dX7_step_168 rfl (lv_at hl 2 rfl) ?_
                  refine lv_iload_n hx hb dX7_step_169 rfl (lv_at hl 0 rfl) ?_
                  refine lv_if_eq (tgt := 194) hx hb dX7_step_170 (by decide) (fun c445 => ?_) (fun c445 => absurd (by decide) c445)
                  refine lv_bipush (v := 22) hx hb dX7_step_194 (by decide) ?_
                  have fx446 : V436 (t) = some (.inr (7, [.int (q_fk), .int (q_fp), .ref (q_tx), .ref (q_ou), .int (y421), .int (q_tk), .int (st9), .ref (q_nm)])) := (hq440.2 (t) _ h_t rfl).trans (e428)
                  refine hp_put hx hb hts hown hZ fx446 fp_X7_45 rfl rfl (Nat.le_of_ble_eq_true rfl) dX7_step_196 (fun V447 _ _ e448 o449 hZ => ?_)
                  have e448 : V447 (t) = some (.inr (7, [.int (q_fk), .int (q_fp), .ref (q_tx), .ref (q_ou), .int (y421), .int (22), .int (st9), .ref (q_nm)])) := e448
                  have hP := hP.put h_t e448 o449 (trivial) rfl
                  refine lv_goto (tgt := 321) hx hb dX7_step_199 (by decide) ?_
                  have hl450 : (22 : Int32).toInt = 22 := by decide
                  exact hp_vret hx hb hr hlocks hZ ⟨rfl, hP, ⟨y421, 22, st9, e448, by omega⟩⟩ dX7_step_321
                · have c444 : (r439).toInt = (39 : Int) := hq_eqi.mp c444
                  refine lv_iconst (v := 1) hx hb dX7_step_162 (by decide) ?_
                  refine lv_goto (tgt := 167) hx hb dX7_step_163 (by decide) ?_
                  refine lv_istore_n (lv' := [(2, .int (1)), (1, .int (r276)), (0, .ref (t))]) hx hb dX7_step_167 rfl hl (by decide) rfl (fun ls hl => ?_)
                  refine lv_aload_n hx hb dX7_step_168 rfl (lv_at hl 2 rfl) ?_
                  refine lv_iload_n hx hb dX7_step_169 rfl (lv_at hl 0 rfl) ?_
                  refine lv_if_eq (tgt := 194) hx hb dX7_step_170 (by decide) (fun c451 => absurd c451 (by decide)) (fun c451 => ?_)
                  refine lv_aload_n hx hb dX7_step_173 rfl (lv_at hl 2 rfl) ?_
                  have fx452 : V436 (t) = some (.inr (7, [.int (q_fk), .int (q_fp), .ref (q_tx), .ref (q_ou), .int (y421), .int (q_tk), .int (st9), .ref (q_nm)])) := (hq440.2 (t) _ h_t rfl).trans (e428)
                  refine hp_get (v := .int (y421)) hx hb hts hown hZ fx452 fl_X7_39 rfl dX7_step_174 ?_
                  refine lv_aload_n hx hb dX7_step_177 rfl (lv_at hl 2 rfl) ?_
                  refine hp_get (v := .int (st9)) hx hb hts hown hZ fx452 fl_X7_174 rfl dX7_step_178 ?_
                  refine lv_isub hx hb dX7_step_181 ?_
                  refine lv_topi (fun y453 ey454 => ?_)
                  obtain ⟨k455, hk456, b457, b458⟩ := hq_sub (y421) (st9)
                  rw [← ey454] at hk456 b457 b458
                  have hk456 : (y453).toInt = (y421).toInt - (st9).toInt + k455 * 4294967296 := hk456
                  obtain rfl : k455 = 0 := by omega
                  refine lv_iconst (v := 2) hx hb dX7_step_182 (by decide) ?_
                  refine lv_isub hx hb dX7_step_183 ?_
                  refine lv_topi (fun y459 ey460 => ?_)
                  obtain ⟨k461, hk462, b463, b464⟩ := hq_sub (y453) (2)
                  rw [← ey460] at hk462 b463 b464
                  have hk462 : (y459).toInt = (y453).toInt - (2 : Int) + k461 * 4294967296 := hk462
                  obtain rfl : k461 = 0 := by omega
                  refine lv_bipush (v := 8) hx hb dX7_step_184 (by decide) ?_
                  refine lv_icmp_gt (tgt := 194) hx hb dX7_step_186 (by decide) (fun c465 => ?_) (fun c465 => ?_)
                  · have c465 : (8 : Int) < (y459).toInt := hq_lti.mp c465
                    refine lv_bipush (v := 22) hx hb dX7_step_194 (by decide) ?_
                    refine hp_put hx hb hts hown hZ fx452 fp_X7_45 rfl rfl (Nat.le_of_ble_eq_true rfl) dX7_step_196 (fun V466 _ _ e467 o468 hZ => ?_)
                    have e467 : V466 (t) = some (.inr (7, [.int (q_fk), .int (q_fp), .ref (q_tx), .ref (q_ou), .int (y421), .int (22), .int (st9), .ref (q_nm)])) := e467
                    have hP := hP.put h_t e467 o468 (trivial) rfl
                    refine lv_goto (tgt := 321) hx hb dX7_step_199 (by decide) ?_
                    have hl469 : (22 : Int32).toInt = 22 := by decide
                    exact hp_vret hx hb hr hlocks hZ ⟨rfl, hP, ⟨y421, 22, st9, e467, by omega⟩⟩ dX7_step_321
                  · have c465 : ¬ (8 : Int) < (y459).toInt := fun h9 => c465 (hq_lti.mpr h9)
                    refine lv_bipush (v := 19) hx hb dX7_step_189 (by decide) ?_
                    refine lv_goto (tgt := 196) hx hb dX7_step_191 (by decide) ?_
                    refine hp_put hx hb hts hown hZ fx452 fp_X7_45 rfl rfl (Nat.le_of_ble_eq_true rfl) dX7_step_196 (fun V470 _ _ e471 o472 hZ => ?_)
                    have e471 : V470 (t) = some (.inr (7, [.int (q_fk), .int (q_fp), .ref (q_tx), .ref (q_ou), .int (y421), .int (19), .int (st9), .ref (q_nm)])) := e471
                    have hP := hP.put h_t e471 o472 (trivial) rfl
                    refine lv_goto (tgt := 321) hx hb dX7_step_199 (by decide) ?_
                    have hl473 : (19 : Int32).toInt = 19 := by decide
                    exact hp_vret hx hb hr hlocks hZ ⟨rfl, hP, ⟨y421, 19, st9, e471, by omega⟩⟩ dX7_step_321
            · have c282 : (r276).toInt = (59 : Int) := hq_eqi.mp c282
              refine lv_aload_n hx hb dX7_step_109 rfl (lv_at hl 1 rfl) ?_
              refine lv_bipush (v := 20) hx hb dX7_step_110 (by decide) ?_
              have fx474 : V273 (t) = some (.inr (7, [.int (q_fk), .int (q_fp), .ref (q_tx), .ref (q_ou), .int (y264), .int (q_tk), .int (st9), .ref (q_nm)])) := (hq277.2 (t) _ h_t rfl).trans (e271)
              refine hp_put hx hb hts hown hZ fx474 fp_X7_45 rfl rfl (Nat.le_of_ble_eq_true rfl) dX7_step_112 (fun V475 _ _ e476 o477 hZ => ?_)
              have e476 : V475 (t) = some (.inr (7, [.int (q_fk), .int (q_fp), .ref (q_tx), .ref (q_ou), .int (y264), .int (20), .int (st9), .ref (q_nm)])) := e476
              have hP := hP.put h_t e476 o477 (trivial) rfl
              refine lv_goto (tgt := 321) hx hb dX7_step_115 (by decide) ?_
              have hl478 : (20 : Int32).toInt = 20 := by decide
              exact hp_vret hx hb hr hlocks hZ ⟨rfl, hP, ⟨y264, 20, st9, e476, by omega⟩⟩ dX7_step_321
          · have c281 : (r276).toInt = (-1 : Int) := hq_eqi.mp c281
            refine lv_aload_n hx hb dX7_step_94 rfl (lv_at hl 1 rfl) ?_
            refine lv_bipush (v := 21) hx hb dX7_step_95 (by decide) ?_
            have fx479 : V273 (t) = some (.inr (7, [.int (q_fk), .int (q_fp), .ref (q_tx), .ref (q_ou), .int (y264), .int (q_tk), .int (st9), .ref (q_nm)])) := (hq277.2 (t) _ h_t rfl).trans (e271)
            refine hp_put hx hb hts hown hZ fx479 fp_X7_45 rfl rfl (Nat.le_of_ble_eq_true rfl) dX7_step_97 (fun V480 _ _ e481 o482 hZ => ?_)
            have e481 : V480 (t) = some (.inr (7, [.int (q_fk), .int (q_fp), .ref (q_tx), .ref (q_ou), .int (y264), .int (21), .int (st9), .ref (q_nm)])) := e481
            have hP := hP.put h_t e481 o482 (trivial) rfl
            refine lv_goto (tgt := 321) hx hb dX7_step_100 (by decide) ?_
            have hl483 : (21 : Int32).toInt = 21 := by decide
            exact hp_vret hx hb hr hlocks hZ ⟨rfl, hP, ⟨y264, 21, st9, e481, by omega⟩⟩ dX7_step_321
        · have c262 : (r257).toInt = (10 : Int) := hq_eqi.mp c262
          refine lv_aload_n hx hb dX7_step_54 rfl (lv_at hl 0 rfl) ?_
          refine lv_dup hx hb dX7_step_55 rfl ?_
          have fx484 : V254 (t) = some (.inr (7, [.int (q_fk), .int (q_fp), .ref (q_tx), .ref (q_ou), .int (q_nx), .int (q_tk), .int (st9), .ref (q_nm)])) := (hq258.2 (t) _ h_t rfl).trans (fx253)
          refine hp_get (v := .int (st9)) hx hb hts hown hZ fx484 fl_X7_174 rfl dX7_step_56 ?_
          refine lv_iconst (v := 1) hx hb dX7_step_59 (by decide) ?_
          refine lv_iadd hx hb dX7_step_60 ?_
          refine lv_topi (fun y485 ey486 => ?_)
          obtain ⟨k487, hk488, b489, b490⟩ := hq_add (st9) (1)
          rw [← ey486] at hk488 b489 b490
          have hk488 : (y485).toInt = (st9).toInt + (1 : Int) + k487 * 4294967296 := hk488
          obtain rfl : k487 = 0 := by omega
          refine hp_put hx hb hts hown hZ fx484 fp_X7_174 rfl rfl (Nat.le_of_ble_eq_true rfl) dX7_step_61 (fun V491 _ _ e492 o493 hZ => ?_)
          have e492 : V491 (t) = some (.inr (7, [.int (q_fk), .int (q_fp), .ref (q_tx), .ref (q_ou), .int (q_nx), .int (q_tk), .int (y485), .ref (q_nm)])) := e492
          have hP := hP.put h_t e492 o493 (trivial) rfl
          refine lv_goto (tgt := 8) hx hb dX7_step_64 (by decide) ?_
          exact ih8 _ (by omega) _ _ _ ls  (y485) rfl hZ hP e492 (by omega) (by omega) (lv_sub hl [0] rfl)

set_option maxHeartbeats 4000000 in
set_option maxRecDepth 100000 in
theorem t_X7_take_1 (l : Launch) (D : va_G) (cs : Nat → ClassId) (B : Nat) (G : hq_G) (V : hp_V) (n : Nat) (hI : hq_I cs G V) (t : Nat) (h_t : G t = some (10, 0, 0, 0)) (k : Int32) {q_tx q_ou q_nm : Nat} {q_fk q_fp q_nx q_tk q_st : Int32} (ho_t : V t = some (.inr (7, [.int (q_fk), .int (q_fp), .ref (q_tx), .ref (q_ou), .int (q_nx), .int (q_tk), .int (q_st), .ref (q_nm)]))) (h_q_tx : G q_tx = some (0, 4000, 0, 0)) (h_q_ou : G q_ou = some (6, 1, 0, 0)) (h_q_nm : G q_nm = some (0, 12, 0, 0)) (hi_t0 : 0 ≤ q_nx.toInt ∧ q_nx.toInt ≤ 4002) (hi_t1 : 0 ≤ q_st.toInt ∧ q_st.toInt ≤ 4001) (hi_t2 : q_nx.toInt ≤ 4001 ∨ q_tk.toInt = 21) (hd : ¬ k.toInt = 21) : hp_M l yX7_take cX7_take 2 (some .boolean) ({ frames := 7, cells := 0, slots := 0, locals := 152 }) D cs B V n [.ref (t), .int (k)] (hp_QI D cs B (fun r V' n' => n = n' ∧ hq_P cs G (fun g => g.1 == 4) V V' ∧ (∃ (q_fk1 : Int32) (q_fp1 : Int32) (q_nx1 : Int32) (q_tk1 : Int32) (q_st1 : Int32), V' t = some (.inr (7, [.int (q_fk1), .int (q_fp1), .ref (q_tx), .ref (q_ou), .int (q_nx1), .int (q_tk1), .int (q_st1), .ref (q_nm)])) ∧ (0 ≤ q_nx1.toInt ∧ q_nx1.toInt ≤ 4002) ∧ (0 ≤ q_st1.toInt ∧ q_st1.toInt ≤ 4001) ∧ (q_nx1.toInt ≤ 4001 ∨ q_tk1.toInt = 21)) ∧ (0 ≤ r.toInt ∧ r.toInt ≤ 1))) 0 0 := by
  refine hp_walk (R0 := RX7) (by decide) rfl ?_ (Nat.le_of_ble_eq_true rfl)
  intro p e s m below meth c ls hx hb hr hts hown hlocks hin hml hZ hl
  have hP : hq_P cs G (fun g => g.1 == 4) V V := hq_P.rf hI
  have hl : lv_has ls 2 [(0, .ref (t)), (1, .int (k))] := hl
  have hb_k := hq_rng k
  have hb_q_fk := hq_rng q_fk
  have hb_q_fp := hq_rng q_fp
  have hb_q_nx := hq_rng q_nx
  have hb_q_tk := hq_rng q_tk
  have hb_q_st := hq_rng q_st
  refine lv_aload_n hx hb dX7_take_0 rfl (lv_at hl 0 rfl) ?_
  refine hp_get (v := .int (q_tk)) hx hb hts hown hZ ho_t fl_X7_45 rfl dX7_take_1 ?_
  refine lv_iload_n hx hb dX7_take_4 rfl (lv_at hl 1 rfl) ?_
  refine lv_icmp_eq (tgt := 14) hx hb dX7_take_5 (by decide) (fun c1 => ?_) (fun c1 => ?_)
  · have c1 : (q_tk).toInt = (k).toInt := hq_eqi.mp c1
    refine lv_aload_n hx hb dX7_take_14 rfl (lv_at hl 0 rfl) ?_
    refine hp_callv (hp_runV (As := []) (rest := []) hx hb hml hown hts (t_X7_step_1 l D cs B G  V n hP.1  (t) h_t ho_t h_q_tx h_q_ou h_q_nm (by omega) (by omega)) hZ ho_t cv_X7_42 rfl rfl ⟨Nat.le_of_ble_eq_true rfl, Nat.le_of_ble_eq_true rfl⟩ rfl hl.1 rfl (Nat.le_of_ble_eq_true rfl) dX7_take_15 ⟨(Nat.le_of_ble_eq_true rfl), (Nat.le_of_ble_eq_true rfl)⟩) hZ (fun V2 n3 _ _ hw4 hZ => ?_)
    obtain ⟨rfl, hq6, ⟨z8, z9, z10, ho11, hi12⟩⟩ := hw4
    have hP := hP.trans hq6 (by intro g h; simp_all)
    have b13 := hq_rng z8
    have b14 := hq_rng z9
    have b15 := hq_rng z10
    refine lv_iconst (v := 1) hx hb dX7_take_18 (by decide) ?_
    exact hp_zret hx hb hr rfl hlocks hZ ⟨rfl, hP, ⟨q_fk, q_fp, z8, z9, z10, ho11, by omega, by omega, by omega⟩, (by decide)⟩ dX7_take_19
  · have c1 : ¬ (q_tk).toInt = (k).toInt := fun h9 => c1 (hq_eqi.mpr h9)
    refine lv_aload_n hx hb dX7_take_8 rfl (lv_at hl 0 rfl) ?_
    refine lv_iconst (v := 1) hx hb dX7_take_9 (by decide) ?_
    have hl25 : (1 : Int32).toInt = 1 := by decide
    refine hp_calli (hp_runV (As := [.int (1)]) (rest := []) hx hb hml hown hts (t_X7_refuse_1 l D cs B G  V n hP.1  (t) h_t (1) ho_t h_q_tx h_q_ou h_q_nm ) hZ ho_t cv_X7_65 rfl rfl ⟨Nat.le_of_ble_eq_true rfl, Nat.le_of_ble_eq_true rfl⟩ rfl hl.1 rfl (Nat.le_of_ble_eq_true rfl) dX7_take_10 ⟨(Nat.le_of_ble_eq_true rfl), (Nat.le_of_ble_eq_true rfl)⟩) hZ (fun r19 V16 n17 _ _ hw18 hZ => ?_)
    obtain ⟨rfl, hq20, ⟨z22, z23, ho24⟩, hr21⟩ := hw18
    have hP := hP.trans hq20 (by intro g h; simp_all)
    have b26 := hq_rng z22
    have b27 := hq_rng z23
    have b28 := hq_rng r19
    exact hp_zret hx hb hr (hq_nzi (by omega) (by omega)) hlocks hZ ⟨rfl, hP, ⟨z22, z23, q_nx, q_tk, q_st, ho24, by omega, by omega, by omega⟩, (by constructor <;> omega)⟩ dX7_take_13

set_option maxHeartbeats 4000000 in
set_option maxRecDepth 100000 in
theorem t_X7_isName_1 (l : Launch) (D : va_G) (cs : Nat → ClassId) (B : Nat) (G : hq_G) (V : hp_V) (n : Nat) (hI : hq_I cs G V) (t : Nat) (h_t : G t = some (10, 0, 0, 0)) {q_tx q_ou q_nm : Nat} {q_fk q_fp q_nx q_tk q_st : Int32} (ho_t : V t = some (.inr (7, [.int (q_fk), .int (q_fp), .ref (q_tx), .ref (q_ou), .int (q_nx), .int (q_tk), .int (q_st), .ref (q_nm)]))) (h_q_tx : G q_tx = some (0, 4000, 0, 0)) (h_q_ou : G q_ou = some (6, 1, 0, 0)) (h_q_nm : G q_nm = some (0, 12, 0, 0)) (hi_t0 : 0 ≤ q_nx.toInt ∧ q_nx.toInt ≤ 4002) (hi_t1 : 0 ≤ q_st.toInt ∧ q_st.toInt ≤ 4001) (hi_t2 : q_nx.toInt ≤ 4001 ∨ q_tk.toInt = 21) : hp_M l yX7_isName cX7_isName 1 (some .boolean) ({ frames := 2, cells := 0, slots := 0, locals := 45 }) D cs B V n [.ref (t)] (hp_QI D cs B (fun r V' n' => n = n' ∧ hq_P cs G (fun g => g.1 == 3 || g.1 == 4) V V' ∧ (∃ (q_fk1 : Int32) (q_fp1 : Int32), V' t = some (.inr (7, [.int (q_fk1), .int (q_fp1), .ref (q_tx), .ref (q_ou), .int (q_nx), .int (q_tk), .int (q_st), .ref (q_nm)]))) ∧ (r.toInt = 0 ∨ (r.toInt = 1 ∧ q_tk.toInt = 17)))) 0 0 := by
  refine hp_walk (R0 := RX7) (by decide) rfl ?_ (Nat.le_of_ble_eq_true rfl)
  intro p e s m below meth c ls hx hb hr hts hown hlocks hin hml hZ hl
  have hP : hq_P cs G (fun g => g.1 == 3 || g.1 == 4) V V := hq_P.rf hI
  have hl : lv_has ls 1 [(0, .ref (t))] := hl
  have hb_q_fk := hq_rng q_fk
  have hb_q_fp := hq_rng q_fp
  have hb_q_nx := hq_rng q_nx
  have hb_q_tk := hq_rng q_tk
  have hb_q_st := hq_rng q_st
  refine lv_aload_n hx hb dX7_isName_0 rfl (lv_at hl 0 rfl) ?_
  refine hp_get (v := .int (q_tk)) hx hb hts hown hZ ho_t fl_X7_45 rfl dX7_isName_1 ?_
  refine lv_bipush (v := 17) hx hb dX7_isName_4 (by decide) ?_
  refine lv_icmp_eq (tgt := 15) hx hb dX7_isName_6 (by decide) (fun c1 => ?_) (fun c1 => ?_)
  · have c1 : (q_tk).toInt = (17 : Int) := hq_eqi.mp c1
    refine lv_aload_n hx hb dX7_isName_15 rfl (lv_at hl 0 rfl) ?_
    refine hp_get (v := .ref (q_nm)) hx hb hts hown hZ ho_t fl_X7_23 rfl dX7_isName_16 ?_
    obtain ⟨u9, z10, eV8, hu11, h12, h13, h14⟩ := hq_o0 hP.1 h_q_nm
    refine hp_callv (hp_runV (As := []) (rest := []) hx hb hml hown hts (t_X9_clear l D cs B G (fun g => g.1 == 3) V n hP.1 _ (q_nm) h_q_nm rfl) hZ eV8 cv_X7_177 rfl rfl ⟨Nat.le_of_ble_eq_true rfl, Nat.le_of_ble_eq_true rfl⟩ rfl hl.1 rfl (Nat.le_of_ble_eq_true rfl) dX7_isName_19 ⟨(Nat.le_of_ble_eq_true rfl), (Nat.le_of_ble_eq_true rfl)⟩) hZ (fun V2 n3 _ _ hw4 hZ => ?_)
    obtain ⟨rfl, hq6⟩ := hw4
    have hP := hP.trans hq6 (by intro g h; simp_all)
    refine lv_aload_n hx hb dX7_isName_22 rfl (lv_at hl 0 rfl) ?_
    have fx15 : V2 (t) = some (.inr (7, [.int (q_fk), .int (q_fp), .ref (q_tx), .ref (q_ou), .int (q_nx), .int (q_tk), .int (q_st), .ref (q_nm)])) := (hq6.2 (t) _ h_t rfl).trans (ho_t)
    refine hp_get (v := .ref (q_nm)) hx hb hts hown hZ fx15 fl_X7_23 rfl dX7_isName_23 ?_
    refine lv_aload_n hx hb dX7_isName_26 rfl (lv_at hl 0 rfl) ?_
    refine hp_get (v := .ref (q_tx)) hx hb hts hown hZ fx15 fl_X7_27 rfl dX7_isName_27 ?_
    refine lv_aload_n hx hb dX7_isName_30 rfl (lv_at hl 0 rfl) ?_
    refine hp_get (v := .int (q_st)) hx hb hts hown hZ fx15 fl_X7_174 rfl dX7_isName_31 ?_
    refine lv_aload_n hx hb dX7_isName_34 rfl (lv_at hl 0 rfl) ?_
    refine hp_get (v := .int (q_nx)) hx hb hts hown hZ fx15 fl_X7_39 rfl dX7_isName_35 ?_
    obtain ⟨u23, z24, eV22, hu25, h26, h27, h28⟩ := hq_o0 hP.1 h_q_nm
    refine hp_calli (hp_runV (As := [.ref (q_tx), .int (q_st), .int (q_nx)]) (rest := []) hx hb hml hown hts (t_X9_addPart l D cs B G (fun g => g.1 == 3) V2 n hP.1 _ _ (q_nm) h_q_nm (q_tx) h_q_tx (q_st) (q_nx) rfl rfl (by omega)) hZ eV22 cv_X7_178 rfl rfl ⟨Nat.le_of_ble_eq_true rfl, Nat.le_of_ble_eq_true rfl⟩ rfl hl.1 rfl (Nat.le_of_ble_eq_true rfl) dX7_isName_38 ⟨(Nat.le_of_ble_eq_true rfl), (Nat.le_of_ble_eq_true rfl)⟩) hZ (fun r19 V16 n17 _ _ hw18 hZ => ?_)
    obtain ⟨rfl, hq20, hr21⟩ := hw18
    have hP := hP.trans hq20 (by intro g h; simp_all)
    have b29 := hq_rng r19
    have fx30 : V16 (t) = some (.inr (7, [.int (q_fk), .int (q_fp), .ref (q_tx), .ref (q_ou), .int (q_nx), .int (q_tk), .int (q_st), .ref (q_nm)])) := (hq20.2 (t) _ h_t rfl).trans (fx15)
    exact hp_zret hx hb hr (hq_nzi (by omega) (by omega)) hlocks hZ ⟨rfl, hP, ⟨q_fk, q_fp, fx30⟩, (by omega)⟩ dX7_isName_41
  · have c1 : ¬ (q_tk).toInt = (17 : Int) := fun h9 => c1 (hq_eqi.mpr h9)
    refine lv_aload_n hx hb dX7_isName_9 rfl (lv_at hl 0 rfl) ?_
    refine lv_iconst (v := 1) hx hb dX7_isName_10 (by decide) ?_
    have hl40 : (1 : Int32).toInt = 1 := by decide
    refine hp_calli (hp_runV (As := [.int (1)]) (rest := []) hx hb hml hown hts (t_X7_refuse_1 l D cs B G  V n hP.1  (t) h_t (1) ho_t h_q_tx h_q_ou h_q_nm ) hZ ho_t cv_X7_65 rfl rfl ⟨Nat.le_of_ble_eq_true rfl, Nat.le_of_ble_eq_true rfl⟩ rfl hl.1 rfl (Nat.le_of_ble_eq_true rfl) dX7_isName_11 ⟨(Nat.le_of_ble_eq_true rfl), (Nat.le_of_ble_eq_true rfl)⟩) hZ (fun r34 V31 n32 _ _ hw33 hZ => ?_)
    obtain ⟨rfl, hq35, ⟨z37, z38, ho39⟩, hr36⟩ := hw33
    have hP := hP.trans hq35 (by intro g h; simp_all)
    have b41 := hq_rng z37
    have b42 := hq_rng z38
    have b43 := hq_rng r34
    exact hp_zret hx hb hr (hq_nzi (by omega) (by omega)) hlocks hZ ⟨rfl, hP, ⟨z37, z38, ho39⟩, (by omega)⟩ dX7_isName_14

set_option maxHeartbeats 4000000 in
set_option maxRecDepth 100000 in
theorem t_X7_isNewName_1 (l : Launch) (D : va_G) (cs : Nat → ClassId) (B : Nat) (G : hq_G) (V : hp_V) (n : Nat) (hI : hq_I cs G V) (N : Nat) (t : Nat) (h_t : G t = some (10, 0, 0, 0)) (u : Nat) (h_u : G u = some (4, 7, N, 0)) (k : Int32) {q_tx q_ou q_nm : Nat} {q_fk q_fp q_nx q_tk q_st : Int32} (ho_t : V t = some (.inr (7, [.int (q_fk), .int (q_fp), .ref (q_tx), .ref (q_ou), .int (q_nx), .int (q_tk), .int (q_st), .ref (q_nm)]))) (h_q_tx : G q_tx = some (0, 4000, 0, 0)) (h_q_ou : G q_ou = some (6, 1, 0, 0)) (h_q_nm : G q_nm = some (0, 12, 0, 0)) (hi_t0 : 0 ≤ q_nx.toInt ∧ q_nx.toInt ≤ 4002) (hi_t1 : 0 ≤ q_st.toInt ∧ q_st.toInt ≤ 4001) (hi_t2 : q_nx.toInt ≤ 4001 ∨ q_tk.toInt = 21) (hk : k.toInt ≤ N) : hp_M l yX7_isNewName cX7_isNewName 3 (some .boolean) ({ frames := 4, cells := 0, slots := 0, locals := 88 }) D cs B V n [.ref (t), .ref (u), .int (k)] (hp_QI D cs B (fun r V' n' => n = n' ∧ hq_P cs G (fun g => g.1 == 3 || g.1 == 4) V V' ∧ (∃ (q_fk1 : Int32) (q_fp1 : Int32), V' t = some (.inr (7, [.int (q_fk1), .int (q_fp1), .ref (q_tx), .ref (q_ou), .int (q_nx), .int (q_tk), .int (q_st), .ref (q_nm)]))) ∧ (r.toInt = 0 ∨ (r.toInt = 1 ∧ q_tk.toInt = 17)))) 0 0 := by
  refine hp_walk (R0 := RX7) (by decide) rfl ?_ (Nat.le_of_ble_eq_true rfl)
  intro p e s m below meth c ls hx hb hr hts hown hlocks hin hml hZ hl
  have hP : hq_P cs G (fun g => g.1 == 3 || g.1 == 4) V V := hq_P.rf hI
  have hl : lv_has ls 3 [(0, .ref (t)), (1, .ref (u)), (2, .int (k))] := hl
  have hb_k := hq_rng k
  have hb_q_fk := hq_rng q_fk
  have hb_q_fp := hq_rng q_fp
  have hb_q_nx := hq_rng q_nx
  have hb_q_tk := hq_rng q_tk
  have hb_q_st := hq_rng q_st
  refine lv_aload_n hx hb dX7_isNewName_0 rfl (lv_at hl 0 rfl) ?_
  refine hp_calli (hp_runV (As := []) (rest := []) hx hb hml hown hts (t_X7_isName_1 l D cs B G  V n hP.1  (t) h_t ho_t h_q_tx h_q_ou h_q_nm (by omega) (by omega) (by omega) ) hZ ho_t cv_X7_185 rfl rfl ⟨Nat.le_of_ble_eq_true rfl, Nat.le_of_ble_eq_true rfl⟩ rfl hl.1 rfl (Nat.le_of_ble_eq_true rfl) dX7_isNewName_1 ⟨(Nat.le_of_ble_eq_true rfl), (Nat.le_of_ble_eq_true rfl)⟩) hZ (fun r4 V1 n2 _ _ hw3 hZ => ?_)
  obtain ⟨rfl, hq5, ⟨z7, z8, ho9⟩, hr6⟩ := hw3
  have hP := hP.trans hq5 (by intro g h; simp_all)
  have b10 := hq_rng z7
  have b11 := hq_rng z8
  have b12 := hq_rng r4
  refine lv_if_ne (tgt := 9) hx hb dX7_isNewName_4 (by decide) (fun c13 => ?_) (fun c13 => ?_)
  · have c13 : ¬ (r4).toInt = (0 : Int) := fun h9 => c13 (hq_eqi.mpr h9)
    refine lv_aload_n hx hb dX7_isNewName_9 rfl (lv_at hl 0 rfl) ?_
    refine hp_get (v := .ref (q_nm)) hx hb hts hown hZ ho9 fl_X7_23 rfl dX7_isNewName_10 ?_
    refine lv_aload_n hx hb dX7_isNewName_13 rfl (lv_at hl 1 rfl) ?_
    refine lv_iload_n hx hb dX7_isNewName_14 rfl (lv_at hl 2 rfl) ?_
    refine hp_calli (hp_runS (As := [.ref (q_nm), .ref (u), .int (k)]) (rest := []) hx hb hml hown hts (t_X0_indexOf l D cs B G  V1 n hP.1 _ _ (q_nm) h_q_nm (u) h_u (k) (by omega)) hZ cv_X7_188 rfl rfl ⟨Nat.le_of_ble_eq_true rfl, Nat.le_of_ble_eq_true rfl⟩ rfl hl.1 rfl (Nat.le_of_ble_eq_true rfl) dX7_isNewName_15 ⟨(Nat.le_of_ble_eq_true rfl), (Nat.le_of_ble_eq_true rfl)⟩) hZ (fun r17 V14 n15 _ _ hw16 hZ => ?_)
    obtain ⟨rfl, hq18, hr19⟩ := hw16
    have hP := hP.trans hq18 (fun _ _ => rfl)
    have b20 := hq_rng r17
    refine lv_iconst (v := -1) hx hb dX7_isNewName_18 (by decide) ?_
    refine lv_icmp_eq (tgt := 30) hx hb dX7_isNewName_19 (by decide) (fun c21 => ?_) (fun c21 => ?_)
    · have c21 : (r17).toInt = (-1 : Int) := hq_eqi.mp c21
      refine lv_iconst (v := 1) hx hb dX7_isNewName_30 (by decide) ?_
      refine lv_goto (tgt := 35) hx hb dX7_isNewName_31 (by decide) ?_
      have fx22 : V14 (t) = some (.inr (7, [.int (z7), .int (z8), .ref (q_tx), .ref (q_ou), .int (q_nx), .int (q_tk), .int (q_st), .ref (q_nm)])) := (hq18.2 (t) _ h_t rfl).trans (ho9)
      exact hp_zret hx hb hr rfl hlocks hZ ⟨rfl, hP, ⟨z7, z8, fx22⟩, (Or.inr ⟨by decide, by omega⟩)⟩ dX7_isNewName_35
    · have c21 : ¬ (r17).toInt = (-1 : Int) := fun h9 => c21 (hq_eqi.mpr h9)
      refine lv_aload_n hx hb dX7_isNewName_22 rfl (lv_at hl 0 rfl) ?_
      refine lv_iconst (v := 2) hx hb dX7_isNewName_23 (by decide) ?_
      have fx29 : V14 (t) = some (.inr (7, [.int (z7), .int (z8), .ref (q_tx), .ref (q_ou), .int (q_nx), .int (q_tk), .int (q_st), .ref (q_nm)])) := (hq18.2 (t) _ h_t rfl).trans (ho9)
      have hl33 : (2 : Int32).toInt = 2 := by decide
      refine hp_calli (hp_runV (As := [.int (2)]) (rest := []) hx hb hml hown hts (t_X7_refuse_1 l D cs B G  V14 n hP.1  (t) h_t (2) fx29 h_q_tx h_q_ou h_q_nm ) hZ fx29 cv_X7_65 rfl rfl ⟨Nat.le_of_ble_eq_true rfl, Nat.le_of_ble_eq_true rfl⟩ rfl hl.1 rfl (Nat.le_of_ble_eq_true rfl) dX7_isNewName_24 ⟨(Nat.le_of_ble_eq_true rfl), (Nat.le_of_ble_eq_true rfl)⟩) hZ (fun r26 V23 n24 _ _ hw25 hZ => ?_)
      obtain ⟨rfl, hq27, ⟨z30, z31, ho32⟩, hr28⟩ := hw25
      have hP := hP.trans hq27 (by intro g h; simp_all)
      have b34 := hq_rng z30
      have b35 := hq_rng z31
      have b36 := hq_rng r26
      refine lv_if_eq (tgt := 34) hx hb dX7_isNewName_27 (by decide) (fun c37 => ?_) (fun c37 => ?_)
      · have c37 : (r26).toInt = (0 : Int) := hq_eqi.mp c37
        refine lv_iconst (v := 0) hx hb dX7_isNewName_34 (by decide) ?_
        exact hp_zret hx hb hr rfl hlocks hZ ⟨rfl, hP, ⟨z30, z31, ho32⟩, (Or.inl (by decide))⟩ dX7_isNewName_35
      · have c37 : ¬ (r26).toInt = (0 : Int) := fun h9 => c37 (hq_eqi.mpr h9)
        refine lv_iconst (v := 1) hx hb dX7_isNewName_30 (by decide) ?_
        refine lv_goto (tgt := 35) hx hb dX7_isNewName_31 (by decide) ?_
        exact hp_zret hx hb hr rfl hlocks hZ ⟨rfl, hP, ⟨z30, z31, ho32⟩, (Or.inr ⟨by decide, by omega⟩)⟩ dX7_isNewName_35
  · have c13 : (r4).toInt = (0 : Int) := hq_eqi.mp c13
    refine lv_iconst (v := 0) hx hb dX7_isNewName_7 (by decide) ?_
    exact hp_zret hx hb hr rfl hlocks hZ ⟨rfl, hP, ⟨z7, z8, ho9⟩, (Or.inl (by decide))⟩ dX7_isNewName_8

set_option maxHeartbeats 4000000 in
set_option maxRecDepth 100000 in
theorem t_X7_takeName_1 (l : Launch) (D : va_G) (cs : Nat → ClassId) (B : Nat) (G : hq_G) (V : hp_V) (n : Nat) (hI : hq_I cs G V) (N : Nat) (t : Nat) (h_t : G t = some (10, 0, 0, 0)) (u : Nat) (h_u : G u = some (4, 7, N, 0)) (k : Int32) {q_tx q_ou q_nm : Nat} {q_fk q_fp q_nx q_tk q_st : Int32} (ho_t : V t = some (.inr (7, [.int (q_fk), .int (q_fp), .ref (q_tx), .ref (q_ou), .int (q_nx), .int (q_tk), .int (q_st), .ref (q_nm)]))) (h_q_tx : G q_tx = some (0, 4000, 0, 0)) (h_q_ou : G q_ou = some (6, 1, 0, 0)) (h_q_nm : G q_nm = some (0, 12, 0, 0)) (hi_t0 : 0 ≤ q_nx.toInt ∧ q_nx.toInt ≤ 4002) (hi_t1 : 0 ≤ q_st.toInt ∧ q_st.toInt ≤ 4001) (hi_t2 : q_nx.toInt ≤ 4001 ∨ q_tk.toInt = 21) (hk : k.toInt ≤ N) (hN : N ≤ 30) : hp_M l yX7_takeName cX7_takeName 4 (some .int) ({ frames := 7, cells := 0, slots := 0, locals := 152 }) D cs B V n [.ref (t), .ref (u), .int (k)] (hp_QI D cs B (fun r V' n' => n = n' ∧ hq_P cs G (fun g => g.1 == 3 || g.1 == 4) V V' ∧ (∃ (q_fk1 : Int32) (q_fp1 : Int32) (q_nx1 : Int32) (q_tk1 : Int32) (q_st1 : Int32), V' t = some (.inr (7, [.int (q_fk1), .int (q_fp1), .ref (q_tx), .ref (q_ou), .int (q_nx1), .int (q_tk1), .int (q_st1), .ref (q_nm)])) ∧ (0 ≤ q_nx1.toInt ∧ q_nx1.toInt ≤ 4002) ∧ (0 ≤ q_st1.toInt ∧ q_st1.toInt ≤ 4001) ∧ (q_nx1.toInt ≤ 4001 ∨ q_tk1.toInt = 21)) ∧ (-1 ≤ r.toInt ∧ r.toInt ≤ 29))) 0 0 := by
  refine hp_walk (R0 := RX7) (by decide) rfl ?_ (Nat.le_of_ble_eq_true rfl)
  intro p e s m below meth c ls hx hb hr hts hown hlocks hin hml hZ hl
  have hP : hq_P cs G (fun g => g.1 == 3 || g.1 == 4) V V := hq_P.rf hI
  have hl : lv_has ls 4 [(0, .ref (t)), (1, .ref (u)), (2, .int (k))] := hl
  have hb_k := hq_rng k
  have hb_q_fk := hq_rng q_fk
  have hb_q_fp := hq_rng q_fp
  have hb_q_nx := hq_rng q_nx
  have hb_q_tk := hq_rng q_tk
  have hb_q_st := hq_rng q_st
  refine lv_aload_n hx hb dX7_takeName_0 rfl (lv_at hl 0 rfl) ?_
  refine hp_calli (hp_runV (As := []) (rest := []) hx hb hml hown hts (t_X7_isName_1 l D cs B G  V n hP.1  (t) h_t ho_t h_q_tx h_q_ou h_q_nm (by omega) (by omega) (by omega) ) hZ ho_t cv_X7_185 rfl rfl ⟨Nat.le_of_ble_eq_true rfl, Nat.le_of_ble_eq_true rfl⟩ rfl hl.1 rfl (Nat.le_of_ble_eq_true rfl) dX7_takeName_1 ⟨(Nat.le_of_ble_eq_true rfl), (Nat.le_of_ble_eq_true rfl)⟩) hZ (fun r4 V1 n2 _ _ hw3 hZ => ?_)
  obtain ⟨rfl, hq5, ⟨z7, z8, ho9⟩, hr6⟩ := hw3
  have hP := hP.trans hq5 (by intro g h; simp_all)
  have b10 := hq_rng z7
  have b11 := hq_rng z8
  have b12 := hq_rng r4
  refine lv_if_ne (tgt := 9) hx hb dX7_takeName_4 (by decide) (fun c13 => ?_) (fun c13 => ?_)
  · have c13 : ¬ (r4).toInt = (0 : Int) := fun h9 => c13 (hq_eqi.mpr h9)
    refine lv_aload_n hx hb dX7_takeName_9 rfl (lv_at hl 0 rfl) ?_
    refine hp_get (v := .ref (q_nm)) hx hb hts hown hZ ho9 fl_X7_23 rfl dX7_takeName_10 ?_
    refine lv_aload_n hx hb dX7_takeName_13 rfl (lv_at hl 1 rfl) ?_
    refine lv_iload_n hx hb dX7_takeName_14 rfl (lv_at hl 2 rfl) ?_
    refine hp_calli (hp_runS (As := [.ref (q_nm), .ref (u), .int (k)]) (rest := []) hx hb hml hown hts (t_X0_indexOf l D cs B G  V1 n hP.1 _ _ (q_nm) h_q_nm (u) h_u (k) (by omega)) hZ cv_X7_188 rfl rfl ⟨Nat.le_of_ble_eq_true rfl, Nat.le_of_ble_eq_true rfl⟩ rfl hl.1 rfl (Nat.le_of_ble_eq_true rfl) dX7_takeName_15 ⟨(Nat.le_of_ble_eq_true rfl), (Nat.le_of_ble_eq_true rfl)⟩) hZ (fun r17 V14 n15 _ _ hw16 hZ => ?_)
    obtain ⟨rfl, hq18, hr19⟩ := hw16
    have hP := hP.trans hq18 (fun _ _ => rfl)
    have b20 := hq_rng r17
    refine lv_istore_n (lv' := [(3, .int (r17)), (0, .ref (t)), (1, .ref (u)), (2, .int (k))]) hx hb dX7_takeName_18 rfl hl (by decide) rfl (fun ls hl => ?_)
    refine lv_iload_n hx hb dX7_takeName_19 rfl (lv_at hl 0 rfl) ?_
    refine lv_iconst (v := -1) hx hb dX7_takeName_20 (by decide) ?_
    refine lv_icmp_ne (tgt := 33) hx hb dX7_takeName_21 (by decide) (fun c21 => ?_) (fun c21 => ?_)
    · have c21 : ¬ (r17).toInt = (-1 : Int) := fun h9 => c21 (hq_eqi.mpr h9)
      refine lv_aload_n hx hb dX7_takeName_33 rfl (lv_at hl 1 rfl) ?_
      have fx28 : V14 (t) = some (.inr (7, [.int (z7), .int (z8), .ref (q_tx), .ref (q_ou), .int (q_nx), .int (q_tk), .int (q_st), .ref (q_nm)])) := (hq18.2 (t) _ h_t rfl).trans (ho9)
      refine hp_callv (hp_runV (As := []) (rest := []) hx hb hml hown hts (t_X7_step_1 l D cs B G  V14 n hP.1  (t) h_t fx28 h_q_tx h_q_ou h_q_nm (by omega) (by omega)) hZ fx28 cv_X7_42 rfl rfl ⟨Nat.le_of_ble_eq_true rfl, Nat.le_of_ble_eq_true rfl⟩ rfl hl.1 rfl (Nat.le_of_ble_eq_true rfl) dX7_takeName_34 ⟨(Nat.le_of_ble_eq_true rfl), (Nat.le_of_ble_eq_true rfl)⟩) hZ (fun V22 n23 _ _ hw24 hZ => ?_)
      obtain ⟨rfl, hq26, ⟨z29, z30, z31, ho32, hi33⟩⟩ := hw24
      have hP := hP.trans hq26 (by intro g h; simp_all)
      have b34 := hq_rng z29
      have b35 := hq_rng z30
      have b36 := hq_rng z31
      refine lv_iload_n hx hb dX7_takeName_37 rfl (lv_at hl 0 rfl) ?_
      exact hp_iret hx hb hr hlocks hZ ⟨rfl, hP, ⟨z7, z8, z29, z30, z31, ho32, by omega, by omega, by omega⟩, (by constructor <;> omega)⟩ dX7_takeName_38
    · have c21 : (r17).toInt = (-1 : Int) := hq_eqi.mp c21
      refine lv_aload_n hx hb dX7_takeName_24 rfl (lv_at hl 1 rfl) ?_
      refine lv_iconst (v := 2) hx hb dX7_takeName_25 (by decide) ?_
      have fx43 : V14 (t) = some (.inr (7, [.int (z7), .int (z8), .ref (q_tx), .ref (q_ou), .int (q_nx), .int (q_tk), .int (q_st), .ref (q_nm)])) := (hq18.2 (t) _ h_t rfl).trans (ho9)
      have hl47 : (2 : Int32).toInt = 2 := by decide
      refine hp_calli (hp_runV (As := [.int (2)]) (rest := []) hx hb hml hown hts (t_X7_refuse_1 l D cs B G  V14 n hP.1  (t) h_t (2) fx43 h_q_tx h_q_ou h_q_nm ) hZ fx43 cv_X7_65 rfl rfl ⟨Nat.le_of_ble_eq_true rfl, Nat.le_of_ble_eq_true rfl⟩ rfl hl.1 rfl (Nat.le_of_ble_eq_true rfl) dX7_takeName_26 ⟨(Nat.le_of_ble_eq_true rfl), (Nat.le_of_ble_eq_true rfl)⟩) hZ (fun r40 V37 n38 _ _ hw39 hZ => ?_)
      obtain ⟨rfl, hq41, ⟨z44, z45, ho46⟩, hr42⟩ := hw39
      have hP := hP.trans hq41 (by intro g h; simp_all)
      have b48 := hq_rng z44
      have b49 := hq_rng z45
      have b50 := hq_rng r40
      refine lv_pop hx hb dX7_takeName_29 rfl ?_
      refine lv_goto (tgt := 37) hx hb dX7_takeName_30 (by decide) ?_
      refine lv_iload_n hx hb dX7_takeName_37 rfl (lv_at hl 0 rfl) ?_
      exact hp_iret hx hb hr hlocks hZ ⟨rfl, hP, ⟨z44, z45, q_nx, q_tk, q_st, ho46, by omega, by omega, by omega⟩, (by constructor <;> omega)⟩ dX7_takeName_38
  · have c13 : (r4).toInt = (0 : Int) := hq_eqi.mp c13
    refine lv_iconst (v := -1) hx hb dX7_takeName_7 (by decide) ?_
    exact hp_iret hx hb hr hlocks hZ ⟨rfl, hP, ⟨z7, z8, q_nx, q_tk, q_st, ho9, by omega, by omega, by omega⟩, (by decide)⟩ dX7_takeName_8

set_option maxHeartbeats 4000000 in
set_option maxRecDepth 100000 in
theorem t_X7_takeNumber_1 (l : Launch) (D : va_G) (cs : Nat → ClassId) (B : Nat) (G : hq_G) (V : hp_V) (n : Nat) (hI : hq_I cs G V) (t : Nat) (h_t : G t = some (10, 0, 0, 0)) (k : Int32) {q_tx q_ou q_nm : Nat} {q_fk q_fp q_nx q_tk q_st : Int32} (ho_t : V t = some (.inr (7, [.int (q_fk), .int (q_fp), .ref (q_tx), .ref (q_ou), .int (q_nx), .int (q_tk), .int (q_st), .ref (q_nm)]))) (h_q_tx : G q_tx = some (0, 4000, 0, 0)) (h_q_ou : G q_ou = some (6, 1, 0, 0)) (h_q_nm : G q_nm = some (0, 12, 0, 0)) (hi_t0 : 0 ≤ q_nx.toInt ∧ q_nx.toInt ≤ 4002) (hi_t1 : 0 ≤ q_st.toInt ∧ q_st.toInt ≤ 4001) (hi_t2 : q_nx.toInt ≤ 4001 ∨ q_tk.toInt = 21) : hp_M l yX7_takeNumber cX7_takeNumber 3 (some .int) ({ frames := 7, cells := 0, slots := 0, locals := 152 }) D cs B V n [.ref (t), .int (k)] (hp_QI D cs B (fun r V' n' => n = n' ∧ hq_P cs G (fun g => g.1 == 4) V V' ∧ (∃ (q_fk1 : Int32) (q_fp1 : Int32) (q_nx1 : Int32) (q_tk1 : Int32) (q_st1 : Int32), V' t = some (.inr (7, [.int (q_fk1), .int (q_fp1), .ref (q_tx), .ref (q_ou), .int (q_nx1), .int (q_tk1), .int (q_st1), .ref (q_nm)])) ∧ (0 ≤ q_nx1.toInt ∧ q_nx1.toInt ≤ 4002) ∧ (0 ≤ q_st1.toInt ∧ q_st1.toInt ≤ 4001) ∧ (q_nx1.toInt ≤ 4001 ∨ q_tk1.toInt = 21)) ∧ True)) 0 0 := by
  refine hp_walk (R0 := RX7) (by decide) rfl ?_ (Nat.le_of_ble_eq_true rfl)
  intro p e s m below meth c ls hx hb hr hts hown hlocks hin hml hZ hl
  have hP : hq_P cs G (fun g => g.1 == 4) V V := hq_P.rf hI
  have hl : lv_has ls 3 [(0, .ref (t)), (1, .int (k))] := hl
  have hb_k := hq_rng k
  have hb_q_fk := hq_rng q_fk
  have hb_q_fp := hq_rng q_fp
  have hb_q_nx := hq_rng q_nx
  have hb_q_tk := hq_rng q_tk
  have hb_q_st := hq_rng q_st
  refine lv_aload_n hx hb dX7_takeNumber_0 rfl (lv_at hl 0 rfl) ?_
  refine hp_get (v := .ref (q_tx)) hx hb hts hown hZ ho_t fl_X7_27 rfl dX7_takeNumber_1 ?_
  refine lv_aload_n hx hb dX7_takeNumber_4 rfl (lv_at hl 0 rfl) ?_
  refine hp_get (v := .int (q_st)) hx hb hts hown hZ ho_t fl_X7_174 rfl dX7_takeNumber_5 ?_
  obtain ⟨u8, z9, eV7, hu10, h11, h12, h13⟩ := hq_o0 hP.1 h_q_tx
  refine hp_calli (hp_runV (As := [.int (q_st)]) (rest := []) hx hb hml hown hts (t_X9_at l D cs B G  V n hP.1 _ (q_tx) h_q_tx (q_st) ) hZ eV7 cv_X7_182 rfl rfl ⟨Nat.le_of_ble_eq_true rfl, Nat.le_of_ble_eq_true rfl⟩ rfl hl.1 rfl (Nat.le_of_ble_eq_true rfl) dX7_takeNumber_8 ⟨(Nat.le_of_ble_eq_true rfl), (Nat.le_of_ble_eq_true rfl)⟩) hZ (fun r4 V1 n2 _ _ hw3 hZ => ?_)
  obtain ⟨rfl, hq5, hr6⟩ := hw3
  have hP := hP.trans hq5 (fun _ _ => rfl)
  have b14 := hq_rng r4
  refine lv_bipush (v := 48) hx hb dX7_takeNumber_11 (by decide) ?_
  refine lv_isub hx hb dX7_takeNumber_13 ?_
  refine lv_topi (fun y15 ey16 => ?_)
  obtain ⟨k17, hk18, b19, b20⟩ := hq_sub (r4) (48)
  rw [← ey16] at hk18 b19 b20
  have hk18 : (y15).toInt = (r4).toInt - (48 : Int) + k17 * 4294967296 := hk18
  refine lv_istore_n (lv' := [(2, .int (y15)), (0, .ref (t)), (1, .int (k))]) hx hb dX7_takeNumber_14 rfl hl (by decide) rfl (fun ls hl => ?_)
  refine lv_aload_n hx hb dX7_takeNumber_15 rfl (lv_at hl 1 rfl) ?_
  have fx21 : V1 (t) = some (.inr (7, [.int (q_fk), .int (q_fp), .ref (q_tx), .ref (q_ou), .int (q_nx), .int (q_tk), .int (q_st), .ref (q_nm)])) := (hq5.2 (t) _ h_t rfl).trans (ho_t)
  refine hp_get (v := .int (q_tk)) hx hb hts hown hZ fx21 fl_X7_45 rfl dX7_takeNumber_16 ?_
  refine lv_bipush (v := 18) hx hb dX7_takeNumber_19 (by decide) ?_
  refine lv_icmp_ne (tgt := 29) hx hb dX7_takeNumber_21 (by decide) (fun c22 => ?_) (fun c22 => ?_)
  · have c22 : ¬ (q_tk).toInt = (18 : Int) := fun h9 => c22 (hq_eqi.mpr h9)
    refine lv_aload_n hx hb dX7_takeNumber_29 rfl (lv_at hl 1 rfl) ?_
    refine lv_aload_n hx hb dX7_takeNumber_30 rfl (lv_at hl 1 rfl) ?_
    refine hp_get (v := .int (q_tk)) hx hb hts hown hZ fx21 fl_X7_45 rfl dX7_takeNumber_31 ?_
    refine lv_bipush (v := 18) hx hb dX7_takeNumber_34 (by decide) ?_
    refine lv_icmp_eq (tgt := 43) hx hb dX7_takeNumber_36 (by decide) (fun c23 => ?_) (fun c23 => ?_)
    · have c23 : (q_tk).toInt = (18 : Int) := hq_eqi.mp c23
      refine lv_iconst (v := 3) hx hb dX7_takeNumber_43 (by decide) ?_
      have hl33 : (3 : Int32).toInt = 3 := by decide
      refine hp_calli (hp_runV (As := [.int (3)]) (rest := []) hx hb hml hown hts (t_X7_refuse_1 l D cs B G  V1 n hP.1  (t) h_t (3) fx21 h_q_tx h_q_ou h_q_nm ) hZ fx21 cv_X7_65 rfl rfl ⟨Nat.le_of_ble_eq_true rfl, Nat.le_of_ble_eq_true rfl⟩ rfl hl.1 rfl (Nat.le_of_ble_eq_true rfl) dX7_takeNumber_44 ⟨(Nat.le_of_ble_eq_true rfl), (Nat.le_of_ble_eq_true rfl)⟩) hZ (fun r27 V24 n25 _ _ hw26 hZ => ?_)
      obtain ⟨rfl, hq28, ⟨z30, z31, ho32⟩, hr29⟩ := hw26
      have hP := hP.trans hq28 (by intro g h; simp_all)
      have b34 := hq_rng z30
      have b35 := hq_rng z31
      have b36 := hq_rng r27
      refine lv_pop hx hb dX7_takeNumber_47 rfl ?_
      refine lv_iconst (v := -1) hx hb dX7_takeNumber_48 (by decide) ?_
      exact hp_iret hx hb hr hlocks hZ ⟨rfl, hP, ⟨z30, z31, q_nx, q_tk, q_st, ho32, by omega, by omega, by omega⟩, trivial⟩ dX7_takeNumber_49
    · have c23 : ¬ (q_tk).toInt = (18 : Int) := fun h9 => c23 (hq_eqi.mpr h9)
      refine lv_iconst (v := 1) hx hb dX7_takeNumber_39 (by decide) ?_
      refine lv_goto (tgt := 44) hx hb dX7_takeNumber_40 (by decide) ?_
      have hl46 : (1 : Int32).toInt = 1 := by decide
      refine hp_calli (hp_runV (As := [.int (1)]) (rest := []) hx hb hml hown hts (t_X7_refuse_1 l D cs B G  V1 n hP.1  (t) h_t (1) fx21 h_q_tx h_q_ou h_q_nm ) hZ fx21 cv_X7_65 rfl rfl ⟨Nat.le_of_ble_eq_true rfl, Nat.le_of_ble_eq_true rfl⟩ rfl hl.1 rfl (Nat.le_of_ble_eq_true rfl) dX7_takeNumber_44 ⟨(Nat.le_of_ble_eq_true rfl), (Nat.le_of_ble_eq_true rfl)⟩) hZ (fun r40 V37 n38 _ _ hw39 hZ => ?_)
      obtain ⟨rfl, hq41, ⟨z43, z44, ho45⟩, hr42⟩ := hw39
      have hP := hP.trans hq41 (by intro g h; simp_all)
      have b47 := hq_rng z43
      have b48 := hq_rng z44
      have b49 := hq_rng r40
      refine lv_pop hx hb dX7_takeNumber_47 rfl ?_
      refine lv_iconst (v := -1) hx hb dX7_takeNumber_48 (by decide) ?_
      exact hp_iret hx hb hr hlocks hZ ⟨rfl, hP, ⟨z43, z44, q_nx, q_tk, q_st, ho45, by omega, by omega, by omega⟩, trivial⟩ dX7_takeNumber_49
  · have c22 : (q_tk).toInt = (18 : Int) := hq_eqi.mp c22
    refine lv_iload_n hx hb dX7_takeNumber_24 rfl (lv_at hl 0 rfl) ?_
    refine lv_iload_n hx hb dX7_takeNumber_25 rfl (lv_at hl 2 rfl) ?_
    refine lv_icmp_lt (tgt := 50) hx hb dX7_takeNumber_26 (by decide) (fun c50 => ?_) (fun c50 => ?_)
    · have c50 : (y15).toInt < (k).toInt := hq_lti.mp c50
      refine lv_aload_n hx hb dX7_takeNumber_50 rfl (lv_at hl 1 rfl) ?_
      refine hp_callv (hp_runV (As := []) (rest := []) hx hb hml hown hts (t_X7_step_1 l D cs B G  V1 n hP.1  (t) h_t fx21 h_q_tx h_q_ou h_q_nm (by omega) (by omega)) hZ fx21 cv_X7_42 rfl rfl ⟨Nat.le_of_ble_eq_true rfl, Nat.le_of_ble_eq_true rfl⟩ rfl hl.1 rfl (Nat.le_of_ble_eq_true rfl) dX7_takeNumber_51 ⟨(Nat.le_of_ble_eq_true rfl), (Nat.le_of_ble_eq_true rfl)⟩) hZ (fun V51 n52 _ _ hw53 hZ => ?_)
      obtain ⟨rfl, hq55, ⟨z57, z58, z59, ho60, hi61⟩⟩ := hw53
      have hP := hP.trans hq55 (by intro g h; simp_all)
      have b62 := hq_rng z57
      have b63 := hq_rng z58
      have b64 := hq_rng z59
      refine lv_iload_n hx hb dX7_takeNumber_54 rfl (lv_at hl 0 rfl) ?_
      exact hp_iret hx hb hr hlocks hZ ⟨rfl, hP, ⟨q_fk, q_fp, z57, z58, z59, ho60, by omega, by omega, by omega⟩, trivial⟩ dX7_takeNumber_55
    · have c50 : ¬ (y15).toInt < (k).toInt := fun h9 => c50 (hq_lti.mpr h9)
      refine lv_aload_n hx hb dX7_takeNumber_29 rfl (lv_at hl 1 rfl) ?_
      refine lv_aload_n hx hb dX7_takeNumber_30 rfl (lv_at hl 1 rfl) ?_
      refine hp_get (v := .int (q_tk)) hx hb hts hown hZ fx21 fl_X7_45 rfl dX7_takeNumber_31 ?_
      refine lv_bipush (v := 18) hx hb dX7_takeNumber_34 (by decide) ?_
      refine lv_icmp_eq (tgt := 43) hx hb dX7_takeNumber_36 (by decide) (fun c65 => ?_) (fun c65 => ?_)
      · have c65 : (q_tk).toInt = (18 : Int) := hq_eqi.mp c65
        refine lv_iconst (v := 3) hx hb dX7_takeNumber_43 (by decide) ?_
        have hl75 : (3 : Int32).toInt = 3 := by decide
        refine hp_calli (hp_runV (As := [.int (3)]) (rest := []) hx hb hml hown hts (t_X7_refuse_1 l D cs B G  V1 n hP.1  (t) h_t (3) fx21 h_q_tx h_q_ou h_q_nm ) hZ fx21 cv_X7_65 rfl rfl ⟨Nat.le_of_ble_eq_true rfl, Nat.le_of_ble_eq_true rfl⟩ rfl hl.1 rfl (Nat.le_of_ble_eq_true rfl) dX7_takeNumber_44 ⟨(Nat.le_of_ble_eq_true rfl), (Nat.le_of_ble_eq_true rfl)⟩) hZ (fun r69 V66 n67 _ _ hw68 hZ => ?_)
        obtain ⟨rfl, hq70, ⟨z72, z73, ho74⟩, hr71⟩ := hw68
        have hP := hP.trans hq70 (by intro g h; simp_all)
        have b76 := hq_rng z72
        have b77 := hq_rng z73
        have b78 := hq_rng r69
        refine lv_pop hx hb dX7_takeNumber_47 rfl ?_
        refine lv_iconst (v := -1) hx hb dX7_takeNumber_48 (by decide) ?_
        exact hp_iret hx hb hr hlocks hZ ⟨rfl, hP, ⟨z72, z73, q_nx, q_tk, q_st, ho74, by omega, by omega, by omega⟩, trivial⟩ dX7_takeNumber_49
      · have c65 : ¬ (q_tk).toInt = (18 : Int) := fun h9 => c65 (hq_eqi.mpr h9)
        refine lv_iconst (v := 1) hx hb dX7_takeNumber_39 (by decide) ?_
        refine lv_goto (tgt := 44) hx hb dX7_takeNumber_40 (by decide) ?_
        have hl88 : (1 : Int32).toInt = 1 := by decide
        refine hp_calli (hp_runV (As := [.int (1)]) (rest := []) hx hb hml hown hts (t_X7_refuse_1 l D cs B G  V1 n hP.1  (t) h_t (1) fx21 h_q_tx h_q_ou h_q_nm ) hZ fx21 cv_X7_65 rfl rfl ⟨Nat.le_of_ble_eq_true rfl, Nat.le_of_ble_eq_true rfl⟩ rfl hl.1 rfl (Nat.le_of_ble_eq_true rfl) dX7_takeNumber_44 ⟨(Nat.le_of_ble_eq_true rfl), (Nat.le_of_ble_eq_true rfl)⟩) hZ (fun r82 V79 n80 _ _ hw81 hZ => ?_)
        obtain ⟨rfl, hq83, ⟨z85, z86, ho87⟩, hr84⟩ := hw81
        have hP := hP.trans hq83 (by intro g h; simp_all)
        have b89 := hq_rng z85
        have b90 := hq_rng z86
        have b91 := hq_rng r82
        refine lv_pop hx hb dX7_takeNumber_47 rfl ?_
        refine lv_iconst (v := -1) hx hb dX7_takeNumber_48 (by decide) ?_
        exact hp_iret hx hb hr hlocks hZ ⟨rfl, hP, ⟨z85, z86, q_nx, q_tk, q_st, ho87, by omega, by omega, by omega⟩, trivial⟩ dX7_takeNumber_49

set_option maxHeartbeats 4000000 in
set_option maxRecDepth 100000 in
theorem t_X7_takeLetters_1 (l : Launch) (D : va_G) (cs : Nat → ClassId) (B : Nat) (G : hq_G) (V : hp_V) (n : Nat) (hI : hq_I cs G V) (t : Nat) (h_t : G t = some (10, 0, 0, 0)) (u : Nat) (h_u : G u = some (0, 8, 0, 0)) {q_tx q_ou q_nm : Nat} {q_fk q_fp q_nx q_tk q_st : Int32} (ho_t : V t = some (.inr (7, [.int (q_fk), .int (q_fp), .ref (q_tx), .ref (q_ou), .int (q_nx), .int (q_tk), .int (q_st), .ref (q_nm)]))) (h_q_tx : G q_tx = some (0, 4000, 0, 0)) (h_q_ou : G q_ou = some (6, 1, 0, 0)) (h_q_nm : G q_nm = some (0, 12, 0, 0)) (hi_t0 : 0 ≤ q_nx.toInt ∧ q_nx.toInt ≤ 4002) (hi_t1 : 0 ≤ q_st.toInt ∧ q_st.toInt ≤ 4001) (hi_t2 : q_nx.toInt ≤ 4001 ∨ q_tk.toInt = 21) : hp_M l yX7_takeLetters cX7_takeLetters 2 (some .boolean) ({ frames := 7, cells := 0, slots := 0, locals := 152 }) D cs B V n [.ref (t), .ref (u)] (hp_QI D cs B (fun r V' n' => n = n' ∧ hq_P cs G (fun g => g.1 == 3 || g.1 == 4) V V' ∧ (∃ (q_fk1 : Int32) (q_fp1 : Int32) (q_nx1 : Int32) (q_tk1 : Int32) (q_st1 : Int32), V' t = some (.inr (7, [.int (q_fk1), .int (q_fp1), .ref (q_tx), .ref (q_ou), .int (q_nx1), .int (q_tk1), .int (q_st1), .ref (q_nm)])) ∧ (0 ≤ q_nx1.toInt ∧ q_nx1.toInt ≤ 4002) ∧ (0 ≤ q_st1.toInt ∧ q_st1.toInt ≤ 4001) ∧ (q_nx1.toInt ≤ 4001 ∨ q_tk1.toInt = 21)) ∧ (0 ≤ r.toInt ∧ r.toInt ≤ 1))) 0 0 := by
  refine hp_walk (R0 := RX7) (by decide) rfl ?_ (Nat.le_of_ble_eq_true rfl)
  intro p e s m below meth c ls hx hb hr hts hown hlocks hin hml hZ hl
  have hP : hq_P cs G (fun g => g.1 == 3 || g.1 == 4) V V := hq_P.rf hI
  have hl : lv_has ls 2 [(0, .ref (t)), (1, .ref (u))] := hl
  have hb_q_fk := hq_rng q_fk
  have hb_q_fp := hq_rng q_fp
  have hb_q_nx := hq_rng q_nx
  have hb_q_tk := hq_rng q_tk
  have hb_q_st := hq_rng q_st
  refine lv_aload_n hx hb dX7_takeLetters_0 rfl (lv_at hl 0 rfl) ?_
  refine hp_get (v := .int (q_tk)) hx hb hts hown hZ ho_t fl_X7_45 rfl dX7_takeLetters_1 ?_
  refine lv_bipush (v := 19) hx hb dX7_takeLetters_4 (by decide) ?_
  refine lv_icmp_eq (tgt := 15) hx hb dX7_takeLetters_6 (by decide) (fun c1 => ?_) (fun c1 => ?_)
  · have c1 : (q_tk).toInt = (19 : Int) := hq_eqi.mp c1
    refine lv_aload_n hx hb dX7_takeLetters_15 rfl (lv_at hl 1 rfl) ?_
    obtain ⟨u9, z10, eV8, hu11, h12, h13, h14⟩ := hq_o0 hP.1 h_u
    refine hp_callv (hp_runV (As := []) (rest := []) hx hb hml hown hts (t_X9_clear l D cs B G (fun g => g.1 == 3) V n hP.1 _ (u) h_u rfl) hZ eV8 cv_X7_177 rfl rfl ⟨Nat.le_of_ble_eq_true rfl, Nat.le_of_ble_eq_true rfl⟩ rfl hl.1 rfl (Nat.le_of_ble_eq_true rfl) dX7_takeLetters_16 ⟨(Nat.le_of_ble_eq_true rfl), (Nat.le_of_ble_eq_true rfl)⟩) hZ (fun V2 n3 _ _ hw4 hZ => ?_)
    obtain ⟨rfl, hq6⟩ := hw4
    have hP := hP.trans hq6 (by intro g h; simp_all)
    refine lv_aload_n hx hb dX7_takeLetters_19 rfl (lv_at hl 1 rfl) ?_
    refine lv_aload_n hx hb dX7_takeLetters_20 rfl (lv_at hl 0 rfl) ?_
    have fx15 : V2 (t) = some (.inr (7, [.int (q_fk), .int (q_fp), .ref (q_tx), .ref (q_ou), .int (q_nx), .int (q_tk), .int (q_st), .ref (q_nm)])) := (hq6.2 (t) _ h_t rfl).trans (ho_t)
    refine hp_get (v := .ref (q_tx)) hx hb hts hown hZ fx15 fl_X7_27 rfl dX7_takeLetters_21 ?_
    refine lv_aload_n hx hb dX7_takeLetters_24 rfl (lv_at hl 0 rfl) ?_
    refine hp_get (v := .int (q_st)) hx hb hts hown hZ fx15 fl_X7_174 rfl dX7_takeLetters_25 ?_
    refine lv_iconst (v := 1) hx hb dX7_takeLetters_28 (by decide) ?_
    refine lv_iadd hx hb dX7_takeLetters_29 ?_
    refine lv_topi (fun y16 ey17 => ?_)
    obtain ⟨k18, hk19, b20, b21⟩ := hq_add (q_st) (1)
    rw [← ey17] at hk19 b20 b21
    have hk19 : (y16).toInt = (q_st).toInt + (1 : Int) + k18 * 4294967296 := hk19
    obtain rfl : k18 = 0 := by omega
    refine lv_aload_n hx hb dX7_takeLetters_30 rfl (lv_at hl 0 rfl) ?_
    refine hp_get (v := .int (q_nx)) hx hb hts hown hZ fx15 fl_X7_39 rfl dX7_takeLetters_31 ?_
    refine lv_iconst (v := 1) hx hb dX7_takeLetters_34 (by decide) ?_
    refine lv_isub hx hb dX7_takeLetters_35 ?_
    refine lv_topi (fun y22 ey23 => ?_)
    obtain ⟨k24, hk25, b26, b27⟩ := hq_sub (q_nx) (1)
    rw [← ey23] at hk25 b26 b27
    have hk25 : (y22).toInt = (q_nx).toInt - (1 : Int) + k24 * 4294967296 := hk25
    obtain rfl : k24 = 0 := by omega
    obtain ⟨u35, z36, eV34, hu37, h38, h39, h40⟩ := hq_o0 hP.1 h_u
    refine hp_calli (hp_runV (As := [.ref (q_tx), .int (y16), .int (y22)]) (rest := []) hx hb hml hown hts (t_X9_addPart l D cs B G (fun g => g.1 == 3) V2 n hP.1 _ _ (u) h_u (q_tx) h_q_tx (y16) (y22) rfl rfl (by omega)) hZ eV34 cv_X7_178 rfl rfl ⟨Nat.le_of_ble_eq_true rfl, Nat.le_of_ble_eq_true rfl⟩ rfl hl.1 rfl (Nat.le_of_ble_eq_true rfl) dX7_takeLetters_36 ⟨(Nat.le_of_ble_eq_true rfl), (Nat.le_of_ble_eq_true rfl)⟩) hZ (fun r31 V28 n29 _ _ hw30 hZ => ?_)
    obtain ⟨rfl, hq32, hr33⟩ := hw30
    have hP := hP.trans hq32 (by intro g h; simp_all)
    have b41 := hq_rng r31
    refine lv_pop hx hb dX7_takeLetters_39 rfl ?_
    refine lv_aload_n hx hb dX7_takeLetters_40 rfl (lv_at hl 0 rfl) ?_
    have fx48 : V28 (t) = some (.inr (7, [.int (q_fk), .int (q_fp), .ref (q_tx), .ref (q_ou), .int (q_nx), .int (q_tk), .int (q_st), .ref (q_nm)])) := (hq32.2 (t) _ h_t rfl).trans (fx15)
    refine hp_callv (hp_runV (As := []) (rest := []) hx hb hml hown hts (t_X7_step_1 l D cs B G  V28 n hP.1  (t) h_t fx48 h_q_tx h_q_ou h_q_nm (by omega) (by omega)) hZ fx48 cv_X7_42 rfl rfl ⟨Nat.le_of_ble_eq_true rfl, Nat.le_of_ble_eq_true rfl⟩ rfl hl.1 rfl (Nat.le_of_ble_eq_true rfl) dX7_takeLetters_41 ⟨(Nat.le_of_ble_eq_true rfl), (Nat.le_of_ble_eq_true rfl)⟩) hZ (fun V42 n43 _ _ hw44 hZ => ?_)
    obtain ⟨rfl, hq46, ⟨z49, z50, z51, ho52, hi53⟩⟩ := hw44
    have hP := hP.trans hq46 (by intro g h; simp_all)
    have b54 := hq_rng z49
    have b55 := hq_rng z50
    have b56 := hq_rng z51
    refine lv_iconst (v := 1) hx hb dX7_takeLetters_44 (by decide) ?_
    exact hp_zret hx hb hr rfl hlocks hZ ⟨rfl, hP, ⟨q_fk, q_fp, z49, z50, z51, ho52, by omega, by omega, by omega⟩, (by decide)⟩ dX7_takeLetters_45
  · have c1 : ¬ (q_tk).toInt = (19 : Int) := fun h9 => c1 (hq_eqi.mpr h9)
    refine lv_aload_n hx hb dX7_takeLetters_9 rfl (lv_at hl 0 rfl) ?_
    refine lv_iconst (v := 1) hx hb dX7_takeLetters_10 (by decide) ?_
    have hl66 : (1 : Int32).toInt = 1 := by decide
    refine hp_calli (hp_runV (As := [.int (1)]) (rest := []) hx hb hml hown hts (t_X7_refuse_1 l D cs B G  V n hP.1  (t) h_t (1) ho_t h_q_tx h_q_ou h_q_nm ) hZ ho_t cv_X7_65 rfl rfl ⟨Nat.le_of_ble_eq_true rfl, Nat.le_of_ble_eq_true rfl⟩ rfl hl.1 rfl (Nat.le_of_ble_eq_true rfl) dX7_takeLetters_11 ⟨(Nat.le_of_ble_eq_true rfl), (Nat.le_of_ble_eq_true rfl)⟩) hZ (fun r60 V57 n58 _ _ hw59 hZ => ?_)
    obtain ⟨rfl, hq61, ⟨z63, z64, ho65⟩, hr62⟩ := hw59
    have hP := hP.trans hq61 (by intro g h; simp_all)
    have b67 := hq_rng z63
    have b68 := hq_rng z64
    have b69 := hq_rng r60
    exact hp_zret hx hb hr (hq_nzi (by omega) (by omega)) hlocks hZ ⟨rfl, hP, ⟨z63, z64, q_nx, q_tk, q_st, ho65, by omega, by omega, by omega⟩, (by constructor <;> omega)⟩ dX7_takeLetters_14

set_option maxHeartbeats 4000000 in
set_option maxRecDepth 100000 in
theorem t_X7_isNotEmpty_1 (l : Launch) (D : va_G) (cs : Nat → ClassId) (B : Nat) (G : hq_G) (V : hp_V) (n : Nat) (hI : hq_I cs G V) (t : Nat) (h_t : G t = some (10, 0, 0, 0)) {q_tx q_ou q_nm : Nat} {q_fk q_fp q_nx q_tk q_st : Int32} (ho_t : V t = some (.inr (7, [.int (q_fk), .int (q_fp), .ref (q_tx), .ref (q_ou), .int (q_nx), .int (q_tk), .int (q_st), .ref (q_nm)]))) (h_q_tx : G q_tx = some (0, 4000, 0, 0)) (h_q_ou : G q_ou = some (6, 1, 0, 0)) (h_q_nm : G q_nm = some (0, 12, 0, 0)) (hi_t0 : 0 ≤ q_nx.toInt ∧ q_nx.toInt ≤ 4002) (hi_t1 : 0 ≤ q_st.toInt ∧ q_st.toInt ≤ 4001) (hi_t2 : q_nx.toInt ≤ 4001 ∨ q_tk.toInt = 21) : hp_M l yX7_isNotEmpty cX7_isNotEmpty 1 (some .boolean) ({ frames := 2, cells := 0, slots := 0, locals := 42 }) D cs B V n [.ref (t)] (hp_QI D cs B (fun r V' n' => n = n' ∧ hq_P cs G (fun g => g.1 == 4) V V' ∧ (∃ (q_fk1 : Int32) (q_fp1 : Int32), V' t = some (.inr (7, [.int (q_fk1), .int (q_fp1), .ref (q_tx), .ref (q_ou), .int (q_nx), .int (q_tk), .int (q_st), .ref (q_nm)]))) ∧ (0 ≤ r.toInt ∧ r.toInt ≤ 1))) 0 0 := by
  refine hp_walk (R0 := RX7) (by decide) rfl ?_ (Nat.le_of_ble_eq_true rfl)
  intro p e s m below meth c ls hx hb hr hts hown hlocks hin hml hZ hl
  have hP : hq_P cs G (fun g => g.1 == 4) V V := hq_P.rf hI
  have hl : lv_has ls 1 [(0, .ref (t))] := hl
  have hb_q_fk := hq_rng q_fk
  have hb_q_fp := hq_rng q_fp
  have hb_q_nx := hq_rng q_nx
  have hb_q_tk := hq_rng q_tk
  have hb_q_st := hq_rng q_st
  refine lv_aload_n hx hb dX7_isNotEmpty_0 rfl (lv_at hl 0 rfl) ?_
  refine hp_get (v := .int (q_tk)) hx hb hts hown hZ ho_t fl_X7_45 rfl dX7_isNotEmpty_1 ?_
  refine lv_bipush (v := 19) hx hb dX7_isNotEmpty_4 (by decide) ?_
  refine lv_icmp_ne (tgt := 30) hx hb dX7_isNotEmpty_6 (by decide) (fun c1 => ?_) (fun c1 => ?_)
  · have c1 : ¬ (q_tk).toInt = (19 : Int) := fun h9 => c1 (hq_eqi.mpr h9)
    refine lv_iconst (v := 1) hx hb dX7_isNotEmpty_30 (by decide) ?_
    refine lv_goto (tgt := 35) hx hb dX7_isNotEmpty_31 (by decide) ?_
    exact hp_zret hx hb hr rfl hlocks hZ ⟨rfl, hP, ⟨q_fk, q_fp, ho_t⟩, (by decide)⟩ dX7_isNotEmpty_35
  · have c1 : (q_tk).toInt = (19 : Int) := hq_eqi.mp c1
    refine lv_aload_n hx hb dX7_isNotEmpty_9 rfl (lv_at hl 0 rfl) ?_
    refine hp_get (v := .int (q_nx)) hx hb hts hown hZ ho_t fl_X7_39 rfl dX7_isNotEmpty_10 ?_
    refine lv_aload_n hx hb dX7_isNotEmpty_13 rfl (lv_at hl 0 rfl) ?_
    refine hp_get (v := .int (q_st)) hx hb hts hown hZ ho_t fl_X7_174 rfl dX7_isNotEmpty_14 ?_
    refine lv_isub hx hb dX7_isNotEmpty_17 ?_
    refine lv_topi (fun y2 ey3 => ?_)
    obtain ⟨k4, hk5, b6, b7⟩ := hq_sub (q_nx) (q_st)
    rw [← ey3] at hk5 b6 b7
    have hk5 : (y2).toInt = (q_nx).toInt - (q_st).toInt + k4 * 4294967296 := hk5
    obtain rfl : k4 = 0 := by omega
    refine lv_iconst (v := 2) hx hb dX7_isNotEmpty_18 (by decide) ?_
    refine lv_icmp_gt (tgt := 30) hx hb dX7_isNotEmpty_19 (by decide) (fun c8 => ?_) (fun c8 => ?_)
    · have c8 : (2 : Int) < (y2).toInt := hq_lti.mp c8
      refine lv_iconst (v := 1) hx hb dX7_isNotEmpty_30 (by decide) ?_
      refine lv_goto (tgt := 35) hx hb dX7_isNotEmpty_31 (by decide) ?_
      exact hp_zret hx hb hr rfl hlocks hZ ⟨rfl, hP, ⟨q_fk, q_fp, ho_t⟩, (by decide)⟩ dX7_isNotEmpty_35
    · have c8 : ¬ (2 : Int) < (y2).toInt := fun h9 => c8 (hq_lti.mpr h9)
      refine lv_aload_n hx hb dX7_isNotEmpty_22 rfl (lv_at hl 0 rfl) ?_
      refine lv_iconst (v := 5) hx hb dX7_isNotEmpty_23 (by decide) ?_
      have hl18 : (5 : Int32).toInt = 5 := by decide
      refine hp_calli (hp_runV (As := [.int (5)]) (rest := []) hx hb hml hown hts (t_X7_refuse_1 l D cs B G  V n hP.1  (t) h_t (5) ho_t h_q_tx h_q_ou h_q_nm ) hZ ho_t cv_X7_65 rfl rfl ⟨Nat.le_of_ble_eq_true rfl, Nat.le_of_ble_eq_true rfl⟩ rfl hl.1 rfl (Nat.le_of_ble_eq_true rfl) dX7_isNotEmpty_24 ⟨(Nat.le_of_ble_eq_true rfl), (Nat.le_of_ble_eq_true rfl)⟩) hZ (fun r12 V9 n10 _ _ hw11 hZ => ?_)
      obtain ⟨rfl, hq13, ⟨z15, z16, ho17⟩, hr14⟩ := hw11
      have hP := hP.trans hq13 (by intro g h; simp_all)
      have b19 := hq_rng z15
      have b20 := hq_rng z16
      have b21 := hq_rng r12
      refine lv_if_eq (tgt := 34) hx hb dX7_isNotEmpty_27 (by decide) (fun c22 => ?_) (fun c22 => ?_)
      · have c22 : (r12).toInt = (0 : Int) := hq_eqi.mp c22
        refine lv_iconst (v := 0) hx hb dX7_isNotEmpty_34 (by decide) ?_
        exact hp_zret hx hb hr rfl hlocks hZ ⟨rfl, hP, ⟨z15, z16, ho17⟩, (by decide)⟩ dX7_isNotEmpty_35
      · have c22 : ¬ (r12).toInt = (0 : Int) := fun h9 => c22 (hq_eqi.mpr h9)
        refine lv_iconst (v := 1) hx hb dX7_isNotEmpty_30 (by decide) ?_
        refine lv_goto (tgt := 35) hx hb dX7_isNotEmpty_31 (by decide) ?_
        exact hp_zret hx hb hr rfl hlocks hZ ⟨rfl, hP, ⟨z15, z16, ho17⟩, (by decide)⟩ dX7_isNotEmpty_35

set_option maxHeartbeats 4000000 in
set_option maxRecDepth 100000 in
theorem t_X7_takeChange_1 (l : Launch) (D : va_G) (cs : Nat → ClassId) (B : Nat) (G : hq_G) (V : hp_V) (n : Nat) (hI : hq_I cs G V) (t : Nat) (h_t : G t = some (10, 0, 0, 0)) (it : Nat) (h_it : G it = some (5, 1, 0, 0)) {q_tx q_ou q_nm : Nat} {q_fk q_fp q_nx q_tk q_st : Int32} (ho_t : V t = some (.inr (7, [.int (q_fk), .int (q_fp), .ref (q_tx), .ref (q_ou), .int (q_nx), .int (q_tk), .int (q_st), .ref (q_nm)]))) (h_q_tx : G q_tx = some (0, 4000, 0, 0)) (h_q_ou : G q_ou = some (6, 1, 0, 0)) (h_q_nm : G q_nm = some (0, 12, 0, 0)) (hi_t0 : 0 ≤ q_nx.toInt ∧ q_nx.toInt ≤ 4002) (hi_t1 : 0 ≤ q_st.toInt ∧ q_st.toInt ≤ 4001) (hi_t2 : q_nx.toInt ≤ 4001 ∨ q_tk.toInt = 21) : hp_M l yX7_takeChange cX7_takeChange 2 (some .boolean) ({ frames := 8, cells := 0, slots := 0, locals := 173 }) D cs B V n [.ref (t), .ref (it)] (hp_QI D cs B (fun r V' n' => n = n' ∧ hq_P cs G (fun g => g.1 == 3 || g.1 == 4) V V' ∧ (∃ (q_fk1 : Int32) (q_fp1 : Int32) (q_nx1 : Int32) (q_tk1 : Int32) (q_st1 : Int32), V' t = some (.inr (7, [.int (q_fk1), .int (q_fp1), .ref (q_tx), .ref (q_ou), .int (q_nx1), .int (q_tk1), .int (q_st1), .ref (q_nm)])) ∧ (0 ≤ q_nx1.toInt ∧ q_nx1.toInt ≤ 4002) ∧ (0 ≤ q_st1.toInt ∧ q_st1.toInt ≤ 4001) ∧ (q_nx1.toInt ≤ 4001 ∨ q_tk1.toInt = 21)) ∧ (0 ≤ r.toInt ∧ r.toInt ≤ 1))) 0 0 := by
  refine hp_walk (R0 := RX7) (by decide) rfl ?_ (Nat.le_of_ble_eq_true rfl)
  intro p e s m below meth c ls hx hb hr hts hown hlocks hin hml hZ hl
  have hP : hq_P cs G (fun g => g.1 == 3 || g.1 == 4) V V := hq_P.rf hI
  have hl : lv_has ls 2 [(0, .ref (t)), (1, .ref (it))] := hl
  have hb_q_fk := hq_rng q_fk
  have hb_q_fp := hq_rng q_fp
  have hb_q_nx := hq_rng q_nx
  have hb_q_tk := hq_rng q_tk
  have hb_q_st := hq_rng q_st
  refine lv_aload_n hx hb dX7_takeChange_0 rfl (lv_at hl 0 rfl) ?_
  refine hp_calli (hp_runV (As := []) (rest := []) hx hb hml hown hts (t_X7_isNotEmpty_1 l D cs B G  V n hP.1  (t) h_t ho_t h_q_tx h_q_ou h_q_nm (by omega) (by omega) (by omega) ) hZ ho_t cv_X7_151 rfl rfl ⟨Nat.le_of_ble_eq_true rfl, Nat.le_of_ble_eq_true rfl⟩ rfl hl.1 rfl (Nat.le_of_ble_eq_true rfl) dX7_takeChange_1 ⟨(Nat.le_of_ble_eq_true rfl), (Nat.le_of_ble_eq_true rfl)⟩) hZ (fun r4 V1 n2 _ _ hw3 hZ => ?_)
  obtain ⟨rfl, hq5, ⟨z7, z8, ho9⟩, hr6⟩ := hw3
  have hP := hP.trans hq5 (by intro g h; simp_all)
  have b10 := hq_rng z7
  have b11 := hq_rng z8
  have b12 := hq_rng r4
  refine lv_if_eq (tgt := 42) hx hb dX7_takeChange_4 (by decide) (fun c13 => ?_) (fun c13 => ?_)
  · have c13 : (r4).toInt = (0 : Int) := hq_eqi.mp c13
    refine lv_iconst (v := 0) hx hb dX7_takeChange_42 (by decide) ?_
    exact hp_zret hx hb hr rfl hlocks hZ ⟨rfl, hP, ⟨z7, z8, q_nx, q_tk, q_st, ho9, by omega, by omega, by omega⟩, (by decide)⟩ dX7_takeChange_43
  · have c13 : ¬ (r4).toInt = (0 : Int) := fun h9 => c13 (hq_eqi.mpr h9)
    refine lv_aload_n hx hb dX7_takeChange_7 rfl (lv_at hl 0 rfl) ?_
    refine lv_aload_n hx hb dX7_takeChange_8 rfl (lv_at hl 1 rfl) ?_
    obtain ⟨z15, z16, z17, z18, z19, z20, z21, z22, u23, u24, eV14, hu25, hu26, h27, h28⟩ := hq_o5 hP.1 h_it
    refine hp_get (v := .ref (u23)) hx hb hts hown hZ eV14 fl_X7_119 rfl dX7_takeChange_9 ?_
    refine hp_calli (hp_runV (As := [.ref (u23)]) (rest := []) hx hb hml hown hts (t_X7_takeLetters_1 l D cs B G  V1 n hP.1  (t) h_t (u23) hu25 ho9 h_q_tx h_q_ou h_q_nm (by omega) (by omega) (by omega) ) hZ ho9 cv_X7_122 rfl rfl ⟨Nat.le_of_ble_eq_true rfl, Nat.le_of_ble_eq_true rfl⟩ rfl hl.1 rfl (Nat.le_of_ble_eq_true rfl) dX7_takeChange_12 ⟨(Nat.le_of_ble_eq_true rfl), (Nat.le_of_ble_eq_true rfl)⟩) hZ (fun r32 V29 n30 _ _ hw31 hZ => ?_)
    obtain ⟨rfl, hq33, ⟨z35, z36, z37, z38, z39, ho40, hi41, hi42, hi43⟩, hr34⟩ := hw31
    have hP := hP.trans hq33 (by intro g h; simp_all)
    have b44 := hq_rng z35
    have b45 := hq_rng z36
    have b46 := hq_rng z37
    have b47 := hq_rng z38
    have b48 := hq_rng z39
    have b49 := hq_rng r32
    refine lv_if_eq (tgt := 42) hx hb dX7_takeChange_15 (by decide) (fun c50 => ?_) (fun c50 => ?_)
    · have c50 : (r32).toInt = (0 : Int) := hq_eqi.mp c50
      refine lv_iconst (v := 0) hx hb dX7_takeChange_42 (by decide) ?_
      exact hp_zret hx hb hr rfl hlocks hZ ⟨rfl, hP, ⟨z35, z36, z37, z38, z39, ho40, by omega, by omega, by omega⟩, (by decide)⟩ dX7_takeChange_43
    · have c50 : ¬ (r32).toInt = (0 : Int) := fun h9 => c50 (hq_eqi.mpr h9)
      refine lv_aload_n hx hb dX7_takeChange_18 rfl (lv_at hl 0 rfl) ?_
      refine lv_bipush (v := 9) hx hb dX7_takeChange_19 (by decide) ?_
      have hl66 : (9 : Int32).toInt = 9 := by decide
      refine hp_calli (hp_runV (As := [.int (9)]) (rest := []) hx hb hml hown hts (t_X7_take_1 l D cs B G  V29 n hP.1  (t) h_t (9) ho40 h_q_tx h_q_ou h_q_nm (by omega) (by omega) (by omega) (by omega)) hZ ho40 cv_X7_58 rfl rfl ⟨Nat.le_of_ble_eq_true rfl, Nat.le_of_ble_eq_true rfl⟩ rfl hl.1 rfl (Nat.le_of_ble_eq_true rfl) dX7_takeChange_21 ⟨(Nat.le_of_ble_eq_true rfl), (Nat.le_of_ble_eq_true rfl)⟩) hZ (fun r54 V51 n52 _ _ hw53 hZ => ?_)
      obtain ⟨rfl, hq55, ⟨z57, z58, z59, z60, z61, ho62, hi63, hi64, hi65⟩, hr56⟩ := hw53
      have hP := hP.trans hq55 (by intro g h; simp_all)
      have b67 := hq_rng z57
      have b68 := hq_rng z58
      have b69 := hq_rng z59
      have b70 := hq_rng z60
      have b71 := hq_rng z61
      have b72 := hq_rng r54
      refine lv_if_eq (tgt := 42) hx hb dX7_takeChange_24 (by decide) (fun c73 => ?_) (fun c73 => ?_)
      · have c73 : (r54).toInt = (0 : Int) := hq_eqi.mp c73
        refine lv_iconst (v := 0) hx hb dX7_takeChange_42 (by decide) ?_
        exact hp_zret hx hb hr rfl hlocks hZ ⟨rfl, hP, ⟨z57, z58, z59, z60, z61, ho62, by omega, by omega, by omega⟩, (by decide)⟩ dX7_takeChange_43
      · have c73 : ¬ (r54).toInt = (0 : Int) := fun h9 => c73 (hq_eqi.mpr h9)
        refine lv_aload_n hx hb dX7_takeChange_27 rfl (lv_at hl 0 rfl) ?_
        refine lv_aload_n hx hb dX7_takeChange_28 rfl (lv_at hl 1 rfl) ?_
        have fx74 : V51 (it) = some (.inr (5, [.int (z15), .int (z16), .int (z17), .int (z18), .int (z19), .int (z20), .int (z21), .int (z22), .ref (u23), .ref (u24)])) := (hq55.2 (it) _ h_it rfl).trans ((hq33.2 (it) _ h_it rfl).trans (eV14))
        refine hp_get (v := .ref (u24)) hx hb hts hown hZ fx74 fl_X7_154 rfl dX7_takeChange_29 ?_
        refine hp_calli (hp_runV (As := [.ref (u24)]) (rest := []) hx hb hml hown hts (t_X7_takeLetters_1 l D cs B G  V51 n hP.1  (t) h_t (u24) hu26 ho62 h_q_tx h_q_ou h_q_nm (by omega) (by omega) (by omega) ) hZ ho62 cv_X7_122 rfl rfl ⟨Nat.le_of_ble_eq_true rfl, Nat.le_of_ble_eq_true rfl⟩ rfl hl.1 rfl (Nat.le_of_ble_eq_true rfl) dX7_takeChange_32 ⟨(Nat.le_of_ble_eq_true rfl), (Nat.le_of_ble_eq_true rfl)⟩) hZ (fun r78 V75 n76 _ _ hw77 hZ => ?_)
        obtain ⟨rfl, hq79, ⟨z81, z82, z83, z84, z85, ho86, hi87, hi88, hi89⟩, hr80⟩ := hw77
        have hP := hP.trans hq79 (by intro g h; simp_all)
        have b90 := hq_rng z81
        have b91 := hq_rng z82
        have b92 := hq_rng z83
        have b93 := hq_rng z84
        have b94 := hq_rng z85
        have b95 := hq_rng r78
        refine lv_if_eq (tgt := 42) hx hb dX7_takeChange_35 (by decide) (fun c96 => ?_) (fun c96 => ?_)
        · have c96 : (r78).toInt = (0 : Int) := hq_eqi.mp c96
          refine lv_iconst (v := 0) hx hb dX7_takeChange_42 (by decide) ?_
          exact hp_zret hx hb hr rfl hlocks hZ ⟨rfl, hP, ⟨z81, z82, z83, z84, z85, ho86, by omega, by omega, by omega⟩, (by decide)⟩ dX7_takeChange_43
        · have c96 : ¬ (r78).toInt = (0 : Int) := fun h9 => c96 (hq_eqi.mpr h9)
          refine lv_iconst (v := 1) hx hb dX7_takeChange_38 (by decide) ?_
          refine lv_goto (tgt := 43) hx hb dX7_takeChange_39 (by decide) ?_
          exact hp_zret hx hb hr rfl hlocks hZ ⟨rfl, hP, ⟨z81, z82, z83, z84, z85, ho86, by omega, by omega, by omega⟩, (by decide)⟩ dX7_takeChange_43

set_option maxHeartbeats 4000000 in
set_option maxRecDepth 100000 in
theorem t_X7_takeExcepted_1 (l : Launch) (D : va_G) (cs : Nat → ClassId) (B : Nat) (G : hq_G) (V : hp_V) (n : Nat) (hI : hq_I cs G V) (t : Nat) (h_t : G t = some (10, 0, 0, 0)) (it : Nat) (h_it : G it = some (5, 1, 0, 0)) {q_tx q_ou q_nm : Nat} {q_fk q_fp q_nx q_tk q_st : Int32} (ho_t : V t = some (.inr (7, [.int (q_fk), .int (q_fp), .ref (q_tx), .ref (q_ou), .int (q_nx), .int (q_tk), .int (q_st), .ref (q_nm)]))) (h_q_tx : G q_tx = some (0, 4000, 0, 0)) (h_q_ou : G q_ou = some (6, 1, 0, 0)) (h_q_nm : G q_nm = some (0, 12, 0, 0)) (hi_t0 : 0 ≤ q_nx.toInt ∧ q_nx.toInt ≤ 4002) (hi_t1 : 0 ≤ q_st.toInt ∧ q_st.toInt ≤ 4001) (hi_t2 : q_nx.toInt ≤ 4001 ∨ q_tk.toInt = 21) : hp_M l yX7_takeExcepted cX7_takeExcepted 2 (some .boolean) ({ frames := 8, cells := 0, slots := 0, locals := 173 }) D cs B V n [.ref (t), .ref (it)] (hp_QI D cs B (fun r V' n' => n = n' ∧ hq_P cs G (fun g => g.1 == 3 || g.1 == 4) V V' ∧ (∃ (q_fk1 : Int32) (q_fp1 : Int32) (q_nx1 : Int32) (q_tk1 : Int32) (q_st1 : Int32), V' t = some (.inr (7, [.int (q_fk1), .int (q_fp1), .ref (q_tx), .ref (q_ou), .int (q_nx1), .int (q_tk1), .int (q_st1), .ref (q_nm)])) ∧ (0 ≤ q_nx1.toInt ∧ q_nx1.toInt ≤ 4002) ∧ (0 ≤ q_st1.toInt ∧ q_st1.toInt ≤ 4001) ∧ (q_nx1.toInt ≤ 4001 ∨ q_tk1.toInt = 21)) ∧ (0 ≤ r.toInt ∧ r.toInt ≤ 1))) 0 0 := by
  refine hp_walk (R0 := RX7) (by decide) rfl ?_ (Nat.le_of_ble_eq_true rfl)
  intro p e s m below meth c ls hx hb hr hts hown hlocks hin hml hZ hl
  have hP : hq_P cs G (fun g => g.1 == 3 || g.1 == 4) V V := hq_P.rf hI
  have hl : lv_has ls 2 [(0, .ref (t)), (1, .ref (it))] := hl
  have hb_q_fk := hq_rng q_fk
  have hb_q_fp := hq_rng q_fp
  have hb_q_nx := hq_rng q_nx
  have hb_q_tk := hq_rng q_tk
  have hb_q_st := hq_rng q_st
  refine lv_aload_n hx hb dX7_takeExcepted_0 rfl (lv_at hl 0 rfl) ?_
  refine hp_get (v := .int (q_tk)) hx hb hts hown hZ ho_t fl_X7_45 rfl dX7_takeExcepted_1 ?_
  refine lv_bipush (v := 19) hx hb dX7_takeExcepted_4 (by decide) ?_
  refine lv_icmp_ne (tgt := 27) hx hb dX7_takeExcepted_6 (by decide) (fun c1 => ?_) (fun c1 => ?_)
  · have c1 : ¬ (q_tk).toInt = (19 : Int) := fun h9 => c1 (hq_eqi.mpr h9)
    refine lv_aload_n hx hb dX7_takeExcepted_27 rfl (lv_at hl 0 rfl) ?_
    refine hp_calli (hp_runV (As := []) (rest := []) hx hb hml hown hts (t_X7_isNotEmpty_1 l D cs B G  V n hP.1  (t) h_t ho_t h_q_tx h_q_ou h_q_nm (by omega) (by omega) (by omega) ) hZ ho_t cv_X7_151 rfl rfl ⟨Nat.le_of_ble_eq_true rfl, Nat.le_of_ble_eq_true rfl⟩ rfl hl.1 rfl (Nat.le_of_ble_eq_true rfl) dX7_takeExcepted_28 ⟨(Nat.le_of_ble_eq_true rfl), (Nat.le_of_ble_eq_true rfl)⟩) hZ (fun r5 V2 n3 _ _ hw4 hZ => ?_)
    obtain ⟨rfl, hq6, ⟨z8, z9, ho10⟩, hr7⟩ := hw4
    have hP := hP.trans hq6 (by intro g h; simp_all)
    have b11 := hq_rng z8
    have b12 := hq_rng z9
    have b13 := hq_rng r5
    refine lv_if_eq (tgt := 49) hx hb dX7_takeExcepted_31 (by decide) (fun c14 => ?_) (fun c14 => ?_)
    · have c14 : (r5).toInt = (0 : Int) := hq_eqi.mp c14
      refine lv_iconst (v := 0) hx hb dX7_takeExcepted_49 (by decide) ?_
      exact hp_zret hx hb hr rfl hlocks hZ ⟨rfl, hP, ⟨z8, z9, q_nx, q_tk, q_st, ho10, by omega, by omega, by omega⟩, (by decide)⟩ dX7_takeExcepted_50
    · have c14 : ¬ (r5).toInt = (0 : Int) := fun h9 => c14 (hq_eqi.mpr h9)
      refine lv_aload_n hx hb dX7_takeExcepted_34 rfl (lv_at hl 0 rfl) ?_
      refine lv_aload_n hx hb dX7_takeExcepted_35 rfl (lv_at hl 1 rfl) ?_
      obtain ⟨z16, z17, z18, z19, z20, z21, z22, z23, u24, u25, eV15, hu26, hu27, h28, h29⟩ := hq_o5 hP.1 h_it
      refine hp_get (v := .ref (u24)) hx hb hts hown hZ eV15 fl_X7_119 rfl dX7_takeExcepted_36 ?_
      refine hp_calli (hp_runV (As := [.ref (u24)]) (rest := []) hx hb hml hown hts (t_X7_takeLetters_1 l D cs B G  V2 n hP.1  (t) h_t (u24) hu26 ho10 h_q_tx h_q_ou h_q_nm (by omega) (by omega) (by omega) ) hZ ho10 cv_X7_122 rfl rfl ⟨Nat.le_of_ble_eq_true rfl, Nat.le_of_ble_eq_true rfl⟩ rfl hl.1 rfl (Nat.le_of_ble_eq_true rfl) dX7_takeExcepted_39 ⟨(Nat.le_of_ble_eq_true rfl), (Nat.le_of_ble_eq_true rfl)⟩) hZ (fun r33 V30 n31 _ _ hw32 hZ => ?_)
      obtain ⟨rfl, hq34, ⟨z36, z37, z38, z39, z40, ho41, hi42, hi43, hi44⟩, hr35⟩ := hw32
      have hP := hP.trans hq34 (by intro g h; simp_all)
      have b45 := hq_rng z36
      have b46 := hq_rng z37
      have b47 := hq_rng z38
      have b48 := hq_rng z39
      have b49 := hq_rng z40
      have b50 := hq_rng r33
      refine lv_if_eq (tgt := 49) hx hb dX7_takeExcepted_42 (by decide) (fun c51 => ?_) (fun c51 => ?_)
      · have c51 : (r33).toInt = (0 : Int) := hq_eqi.mp c51
        refine lv_iconst (v := 0) hx hb dX7_takeExcepted_49 (by decide) ?_
        exact hp_zret hx hb hr rfl hlocks hZ ⟨rfl, hP, ⟨z36, z37, z38, z39, z40, ho41, by omega, by omega, by omega⟩, (by decide)⟩ dX7_takeExcepted_50
      · have c51 : ¬ (r33).toInt = (0 : Int) := fun h9 => c51 (hq_eqi.mpr h9)
        refine lv_iconst (v := 1) hx hb dX7_takeExcepted_45 (by decide) ?_
        refine lv_goto (tgt := 50) hx hb dX7_takeExcepted_46 (by decide) ?_
        exact hp_zret hx hb hr rfl hlocks hZ ⟨rfl, hP, ⟨z36, z37, z38, z39, z40, ho41, by omega, by omega, by omega⟩, (by decide)⟩ dX7_takeExcepted_50
  · have c1 : (q_tk).toInt = (19 : Int) := hq_eqi.mp c1
    refine lv_aload_n hx hb dX7_takeExcepted_9 rfl (lv_at hl 0 rfl) ?_
    refine hp_get (v := .ref (q_ou)) hx hb hts hown hZ ho_t fl_X7_30 rfl dX7_takeExcepted_10 ?_
    refine lv_aload_n hx hb dX7_takeExcepted_13 rfl (lv_at hl 1 rfl) ?_
    obtain ⟨u59, u60, u61, u62, z63, z64, z65, eV58, hu66, hu67, hu68, hu69, ⟨h70, h71⟩, ⟨h72, h73⟩, h74, h75⟩ := hq_o6 hP.1 h_q_ou
    refine hp_calli (hp_runV (As := [.ref (it)]) (rest := []) hx hb hml hown hts (t_X0_exceptsLike l D cs B G  V n hP.1 _ _ (q_ou) h_q_ou (it) h_it ) hZ eV58 cv_X7_170 rfl rfl ⟨Nat.le_of_ble_eq_true rfl, Nat.le_of_ble_eq_true rfl⟩ rfl hl.1 rfl (Nat.le_of_ble_eq_true rfl) dX7_takeExcepted_14 ⟨(Nat.le_of_ble_eq_true rfl), (Nat.le_of_ble_eq_true rfl)⟩) hZ (fun r55 V52 n53 _ _ hw54 hZ => ?_)
    obtain ⟨rfl, hq56, hr57⟩ := hw54
    have hP := hP.trans hq56 (fun _ _ => rfl)
    have b76 := hq_rng r55
    refine lv_iconst (v := 2) hx hb dX7_takeExcepted_17 (by decide) ?_
    refine lv_icmp_lt (tgt := 27) hx hb dX7_takeExcepted_18 (by decide) (fun c77 => ?_) (fun c77 => ?_)
    · have c77 : (r55).toInt < (2 : Int) := hq_lti.mp c77
      refine lv_aload_n hx hb dX7_takeExcepted_27 rfl (lv_at hl 0 rfl) ?_
      have fx84 : V52 (t) = some (.inr (7, [.int (q_fk), .int (q_fp), .ref (q_tx), .ref (q_ou), .int (q_nx), .int (q_tk), .int (q_st), .ref (q_nm)])) := (hq56.2 (t) _ h_t rfl).trans (ho_t)
      refine hp_calli (hp_runV (As := []) (rest := []) hx hb hml hown hts (t_X7_isNotEmpty_1 l D cs B G  V52 n hP.1  (t) h_t fx84 h_q_tx h_q_ou h_q_nm (by omega) (by omega) (by omega) ) hZ fx84 cv_X7_151 rfl rfl ⟨Nat.le_of_ble_eq_true rfl, Nat.le_of_ble_eq_true rfl⟩ rfl hl.1 rfl (Nat.le_of_ble_eq_true rfl) dX7_takeExcepted_28 ⟨(Nat.le_of_ble_eq_true rfl), (Nat.le_of_ble_eq_true rfl)⟩) hZ (fun r81 V78 n79 _ _ hw80 hZ => ?_)
      obtain ⟨rfl, hq82, ⟨z85, z86, ho87⟩, hr83⟩ := hw80
      have hP := hP.trans hq82 (by intro g h; simp_all)
      have b88 := hq_rng z85
      have b89 := hq_rng z86
      have b90 := hq_rng r81
      refine lv_if_eq (tgt := 49) hx hb dX7_takeExcepted_31 (by decide) (fun c91 => ?_) (fun c91 => ?_)
      · have c91 : (r81).toInt = (0 : Int) := hq_eqi.mp c91
        refine lv_iconst (v := 0) hx hb dX7_takeExcepted_49 (by decide) ?_
        exact hp_zret hx hb hr rfl hlocks hZ ⟨rfl, hP, ⟨z85, z86, q_nx, q_tk, q_st, ho87, by omega, by omega, by omega⟩, (by decide)⟩ dX7_takeExcepted_50
      · have c91 : ¬ (r81).toInt = (0 : Int) := fun h9 => c91 (hq_eqi.mpr h9)
        refine lv_aload_n hx hb dX7_takeExcepted_34 rfl (lv_at hl 0 rfl) ?_
        refine lv_aload_n hx hb dX7_takeExcepted_35 rfl (lv_at hl 1 rfl) ?_
        obtain ⟨z93, z94, z95, z96, z97, z98, z99, z100, u101, u102, eV92, hu103, hu104, h105, h106⟩ := hq_o5 hP.1 h_it
        refine hp_get (v := .ref (u101)) hx hb hts hown hZ eV92 fl_X7_119 rfl dX7_takeExcepted_36 ?_
        refine hp_calli (hp_runV (As := [.ref (u101)]) (rest := []) hx hb hml hown hts (t_X7_takeLetters_1 l D cs B G  V78 n hP.1  (t) h_t (u101) hu103 ho87 h_q_tx h_q_ou h_q_nm (by omega) (by omega) (by omega) ) hZ ho87 cv_X7_122 rfl rfl ⟨Nat.le_of_ble_eq_true rfl, Nat.le_of_ble_eq_true rfl⟩ rfl hl.1 rfl (Nat.le_of_ble_eq_true rfl) dX7_takeExcepted_39 ⟨(Nat.le_of_ble_eq_true rfl), (Nat.le_of_ble_eq_true rfl)⟩) hZ (fun r110 V107 n108 _ _ hw109 hZ => ?_)
        obtain ⟨rfl, hq111, ⟨z113, z114, z115, z116, z117, ho118, hi119, hi120, hi121⟩, hr112⟩ := hw109
        have hP := hP.trans hq111 (by intro g h; simp_all)
        have b122 := hq_rng z113
        have b123 := hq_rng z114
        have b124 := hq_rng z115
        have b125 := hq_rng z116
        have b126 := hq_rng z117
        have b127 := hq_rng r110
        refine lv_if_eq (tgt := 49) hx hb dX7_takeExcepted_42 (by decide) (fun c128 => ?_) (fun c128 => ?_)
        · have c128 : (r110).toInt = (0 : Int) := hq_eqi.mp c128
          refine lv_iconst (v := 0) hx hb dX7_takeExcepted_49 (by decide) ?_
          exact hp_zret hx hb hr rfl hlocks hZ ⟨rfl, hP, ⟨z113, z114, z115, z116, z117, ho118, by omega, by omega, by omega⟩, (by decide)⟩ dX7_takeExcepted_50
        · have c128 : ¬ (r110).toInt = (0 : Int) := fun h9 => c128 (hq_eqi.mpr h9)
          refine lv_iconst (v := 1) hx hb dX7_takeExcepted_45 (by decide) ?_
          refine lv_goto (tgt := 50) hx hb dX7_takeExcepted_46 (by decide) ?_
          exact hp_zret hx hb hr rfl hlocks hZ ⟨rfl, hP, ⟨z113, z114, z115, z116, z117, ho118, by omega, by omega, by omega⟩, (by decide)⟩ dX7_takeExcepted_50
    · have c77 : ¬ (r55).toInt < (2 : Int) := fun h9 => c77 (hq_lti.mpr h9)
      refine lv_aload_n hx hb dX7_takeExcepted_21 rfl (lv_at hl 0 rfl) ?_
      refine lv_iconst (v := 4) hx hb dX7_takeExcepted_22 (by decide) ?_
      have fx135 : V52 (t) = some (.inr (7, [.int (q_fk), .int (q_fp), .ref (q_tx), .ref (q_ou), .int (q_nx), .int (q_tk), .int (q_st), .ref (q_nm)])) := (hq56.2 (t) _ h_t rfl).trans (ho_t)
      have hl139 : (4 : Int32).toInt = 4 := by decide
      refine hp_calli (hp_runV (As := [.int (4)]) (rest := []) hx hb hml hown hts (t_X7_refuse_1 l D cs B G  V52 n hP.1  (t) h_t (4) fx135 h_q_tx h_q_ou h_q_nm ) hZ fx135 cv_X7_65 rfl rfl ⟨Nat.le_of_ble_eq_true rfl, Nat.le_of_ble_eq_true rfl⟩ rfl hl.1 rfl (Nat.le_of_ble_eq_true rfl) dX7_takeExcepted_23 ⟨(Nat.le_of_ble_eq_true rfl), (Nat.le_of_ble_eq_true rfl)⟩) hZ (fun r132 V129 n130 _ _ hw131 hZ => ?_)
      obtain ⟨rfl, hq133, ⟨z136, z137, ho138⟩, hr134⟩ := hw131
      have hP := hP.trans hq133 (by intro g h; simp_all)
      have b140 := hq_rng z136
      have b141 := hq_rng z137
      have b142 := hq_rng r132
      exact hp_zret hx hb hr (hq_nzi (by omega) (by omega)) hlocks hZ ⟨rfl, hP, ⟨z136, z137, q_nx, q_tk, q_st, ho138, by omega, by omega, by omega⟩, (by constructor <;> omega)⟩ dX7_takeExcepted_26

set_option maxHeartbeats 4000000 in
set_option maxRecDepth 100000 in
theorem t_X7_takeLast_1 (l : Launch) (D : va_G) (cs : Nat → ClassId) (B : Nat) (G : hq_G) (V : hp_V) (n : Nat) (hI : hq_I cs G V) (t : Nat) (h_t : G t = some (10, 0, 0, 0)) (it : Nat) (h_it : G it = some (5, 1, 0, 0)) {q_tx q_ou q_nm : Nat} {q_fk q_fp q_nx q_tk q_st : Int32} (ho_t : V t = some (.inr (7, [.int (q_fk), .int (q_fp), .ref (q_tx), .ref (q_ou), .int (q_nx), .int (q_tk), .int (q_st), .ref (q_nm)]))) (h_q_tx : G q_tx = some (0, 4000, 0, 0)) (h_q_ou : G q_ou = some (6, 1, 0, 0)) (h_q_nm : G q_nm = some (0, 12, 0, 0)) (hi_t0 : 0 ≤ q_nx.toInt ∧ q_nx.toInt ≤ 4002) (hi_t1 : 0 ≤ q_st.toInt ∧ q_st.toInt ≤ 4001) (hi_t2 : q_nx.toInt ≤ 4001 ∨ q_tk.toInt = 21) {l_f l_s : Nat} {l_k l_o l_t l_p l_h l_ht l_pa l_la : Int32} (ho_it : V it = some (.inr (5, [.int (l_k), .int (l_o), .int (l_t), .int (l_p), .int (l_h), .int (l_ht), .int (l_pa), .int (l_la), .ref (l_f), .ref (l_s)]))) (h_l_f : G l_f = some (0, 8, 0, 0)) (h_l_s : G l_s = some (0, 8, 0, 0)) (hi_it0 : -1 ≤ l_h.toInt ∧ l_h.toInt ≤ 29) : hp_M l yX7_takeLast cX7_takeLast 2 (some .boolean) ({ frames := 7, cells := 0, slots := 0, locals := 152 }) D cs B V n [.ref (t), .ref (it)] (hp_QI D cs B (fun r V' n' => n = n' ∧ hq_P cs G (fun g => g.1 == 4 || (g.1 == 20 && g.2 == 1)) V V' ∧ (∃ (q_fk1 : Int32) (q_fp1 : Int32) (q_nx1 : Int32) (q_tk1 : Int32) (q_st1 : Int32), V' t = some (.inr (7, [.int (q_fk1), .int (q_fp1), .ref (q_tx), .ref (q_ou), .int (q_nx1), .int (q_tk1), .int (q_st1), .ref (q_nm)])) ∧ (0 ≤ q_nx1.toInt ∧ q_nx1.toInt ≤ 4002) ∧ (0 ≤ q_st1.toInt ∧ q_st1.toInt ≤ 4001) ∧ (q_nx1.toInt ≤ 4001 ∨ q_tk1.toInt = 21)) ∧ (∃ (l_la1 : Int32), V' it = some (.inr (5, [.int (l_k), .int (l_o), .int (l_t), .int (l_p), .int (l_h), .int (l_ht), .int (l_pa), .int (l_la1), .ref (l_f), .ref (l_s)]))) ∧ (∀ x, G x = some (5, 1, 0, 0) → x ≠ it → V' x = V x) ∧ (0 ≤ r.toInt ∧ r.toInt ≤ 1))) 0 0 := by
  refine hp_walk (R0 := RX7) (by decide) rfl ?_ (Nat.le_of_ble_eq_true rfl)
  intro p e s m below meth c ls hx hb hr hts hown hlocks hin hml hZ hl
  have hP : hq_P cs G (fun g => g.1 == 4 || (g.1 == 20 && g.2 == 1)) V V := hq_P.rf hI
  have hl : lv_has ls 2 [(0, .ref (t)), (1, .ref (it))] := hl
  have hb_q_fk := hq_rng q_fk
  have hb_q_fp := hq_rng q_fp
  have hb_q_nx := hq_rng q_nx
  have hb_q_tk := hq_rng q_tk
  have hb_q_st := hq_rng q_st
  have hb_l_k := hq_rng l_k
  have hb_l_o := hq_rng l_o
  have hb_l_t := hq_rng l_t
  have hb_l_p := hq_rng l_p
  have hb_l_h := hq_rng l_h
  have hb_l_ht := hq_rng l_ht
  have hb_l_pa := hq_rng l_pa
  have hb_l_la := hq_rng l_la
  refine lv_aload_n hx hb dX7_takeLast_0 rfl (lv_at hl 1 rfl) ?_
  refine lv_aload_n hx hb dX7_takeLast_1 rfl (lv_at hl 0 rfl) ?_
  refine hp_get (v := .int (q_tk)) hx hb hts hown hZ ho_t fl_X7_45 rfl dX7_takeLast_2 ?_
  refine lv_bipush (v := 10) hx hb dX7_takeLast_5 (by decide) ?_
  refine lv_icmp_ne (tgt := 14) hx hb dX7_takeLast_7 (by decide) (fun c1 => ?_) (fun c1 => ?_)
  · have c1 : ¬ (q_tk).toInt = (10 : Int) := fun h9 => c1 (hq_eqi.mpr h9)
    refine lv_iconst (v := 0) hx hb dX7_takeLast_14 (by decide) ?_
    refine hp_put hx hb hts hown hZ ho_it fp_X7_157 rfl rfl (Nat.le_of_ble_eq_true rfl) dX7_takeLast_15 (fun V2 _ _ e3 o4 hZ => ?_)
    have e3 : V2 (it) = some (.inr (5, [.int (l_k), .int (l_o), .int (l_t), .int (l_p), .int (l_h), .int (l_ht), .int (l_pa), .int (0), .ref (l_f), .ref (l_s)])) := e3
    have hP := hP.put h_it e3 o4 (hq_c5 h_l_f h_l_s (show -1 ≤ (l_h).toInt by omega) (show (l_h).toInt ≤ 29 by omega)) rfl
    refine lv_aload_n hx hb dX7_takeLast_18 rfl (lv_at hl 1 rfl) ?_
    refine hp_get (v := .int (0)) hx hb hts hown hZ e3 fl_X7_157 rfl dX7_takeLast_19 ?_
    refine lv_if_eq (tgt := 29) hx hb dX7_takeLast_22 (by decide) (fun c5 => ?_) (fun c5 => absurd (by decide) c5)
    refine lv_iconst (v := 1) hx hb dX7_takeLast_29 (by decide) ?_
    have fx6 : V2 (t) = some (.inr (7, [.int (q_fk), .int (q_fp), .ref (q_tx), .ref (q_ou), .int (q_nx), .int (q_tk), .int (q_st), .ref (q_nm)])) := (o4 (t) (hq_tne h_t h_it (by simp))).trans (ho_t)
    have hl7 : (0 : Int32).toInt = 0 := by decide
    exact hp_zret hx hb hr rfl hlocks hZ ⟨rfl, hP, ⟨q_fk, q_fp, q_nx, q_tk, q_st, fx6, by omega, by omega, by omega⟩, ⟨0, e3⟩, (fun x9 hx9 hne9 => o4 x9 (hne9)), (by decide)⟩ dX7_takeLast_30
  · have c1 : (q_tk).toInt = (10 : Int) := hq_eqi.mp c1
    refine lv_iconst (v := 1) hx hb dX7_takeLast_10 (by decide) ?_
    refine lv_goto (tgt := 15) hx hb dX7_takeLast_11 (by decide) ?_
    refine hp_put hx hb hts hown hZ ho_it fp_X7_157 rfl rfl (Nat.le_of_ble_eq_true rfl) dX7_takeLast_15 (fun V8 _ _ e9 o10 hZ => ?_)
    have e9 : V8 (it) = some (.inr (5, [.int (l_k), .int (l_o), .int (l_t), .int (l_p), .int (l_h), .int (l_ht), .int (l_pa), .int (1), .ref (l_f), .ref (l_s)])) := e9
    have hP := hP.put h_it e9 o10 (hq_c5 h_l_f h_l_s (show -1 ≤ (l_h).toInt by omega) (show (l_h).toInt ≤ 29 by omega)) rfl
    refine lv_aload_n hx hb dX7_takeLast_18 rfl (lv_at hl 1 rfl) ?_
    refine hp_get (v := .int (1)) hx hb hts hown hZ e9 fl_X7_157 rfl dX7_takeLast_19 ?_
    refine lv_if_eq (tgt := 29) hx hb dX7_takeLast_22 (by decide) (fun c11 => absurd c11 (by decide)) (fun c11 => ?_)
    refine lv_aload_n hx hb dX7_takeLast_25 rfl (lv_at hl 0 rfl) ?_
    have fx18 : V8 (t) = some (.inr (7, [.int (q_fk), .int (q_fp), .ref (q_tx), .ref (q_ou), .int (q_nx), .int (q_tk), .int (q_st), .ref (q_nm)])) := (o10 (t) (hq_tne h_t h_it (by simp))).trans (ho_t)
    refine hp_callv (hp_runV (As := []) (rest := []) hx hb hml hown hts (t_X7_step_1 l D cs B G  V8 n hP.1  (t) h_t fx18 h_q_tx h_q_ou h_q_nm (by omega) (by omega)) hZ fx18 cv_X7_42 rfl rfl ⟨Nat.le_of_ble_eq_true rfl, Nat.le_of_ble_eq_true rfl⟩ rfl hl.1 rfl (Nat.le_of_ble_eq_true rfl) dX7_takeLast_26 ⟨(Nat.le_of_ble_eq_true rfl), (Nat.le_of_ble_eq_true rfl)⟩) hZ (fun V12 n13 _ _ hw14 hZ => ?_)
    obtain ⟨rfl, hq16, ⟨z19, z20, z21, ho22, hi23⟩⟩ := hw14
    have hP := hP.trans hq16 (by intro g h; simp_all)
    have b24 := hq_rng z19
    have b25 := hq_rng z20
    have b26 := hq_rng z21
    refine lv_iconst (v := 1) hx hb dX7_takeLast_29 (by decide) ?_
    have fx27 : V12 (it) = some (.inr (5, [.int (l_k), .int (l_o), .int (l_t), .int (l_p), .int (l_h), .int (l_ht), .int (l_pa), .int (1), .ref (l_f), .ref (l_s)])) := (hq16.2 (it) _ h_it rfl).trans (e9)
    have hl28 : (1 : Int32).toInt = 1 := by decide
    exact hp_zret hx hb hr rfl hlocks hZ ⟨rfl, hP, ⟨q_fk, q_fp, z19, z20, z21, ho22, by omega, by omega, by omega⟩, ⟨1, fx27⟩, (fun x9 hx9 hne9 => (hq16.2 x9 _ hx9 rfl).trans (o10 x9 (hne9))), (by decide)⟩ dX7_takeLast_30

set_option maxHeartbeats 4000000 in
set_option maxRecDepth 100000 in
theorem t_X7_takeWhere_1 (l : Launch) (D : va_G) (cs : Nat → ClassId) (B : Nat) (G : hq_G) (V : hp_V) (n : Nat) (hI : hq_I cs G V) (t : Nat) (h_t : G t = some (10, 0, 0, 0)) (it : Nat) (h_it : G it = some (5, 1, 0, 0)) {q_tx q_ou q_nm : Nat} {q_fk q_fp q_nx q_tk q_st : Int32} (ho_t : V t = some (.inr (7, [.int (q_fk), .int (q_fp), .ref (q_tx), .ref (q_ou), .int (q_nx), .int (q_tk), .int (q_st), .ref (q_nm)]))) (h_q_tx : G q_tx = some (0, 4000, 0, 0)) (h_q_ou : G q_ou = some (6, 1, 0, 0)) (h_q_nm : G q_nm = some (0, 12, 0, 0)) (hi_t0 : 0 ≤ q_nx.toInt ∧ q_nx.toInt ≤ 4002) (hi_t1 : 0 ≤ q_st.toInt ∧ q_st.toInt ≤ 4001) (hi_t2 : q_nx.toInt ≤ 4001 ∨ q_tk.toInt = 21) {l_f l_s : Nat} {l_k l_o l_t l_p l_h l_ht l_pa l_la : Int32} (ho_it : V it = some (.inr (5, [.int (l_k), .int (l_o), .int (l_t), .int (l_p), .int (l_h), .int (l_ht), .int (l_pa), .int (l_la), .ref (l_f), .ref (l_s)]))) (h_l_f : G l_f = some (0, 8, 0, 0)) (h_l_s : G l_s = some (0, 8, 0, 0)) (hi_it0 : -1 ≤ l_h.toInt ∧ l_h.toInt ≤ 29) : hp_M l yX7_takeWhere cX7_takeWhere 2 (some .boolean) ({ frames := 8, cells := 0, slots := 0, locals := 175 }) D cs B V n [.ref (t), .ref (it)] (hp_QI D cs B (fun r V' n' => n = n' ∧ hq_P cs G (fun g => g.1 == 3 || g.1 == 4 || (g.1 == 20 && g.2 == 1)) V V' ∧ (∃ (q_fk1 : Int32) (q_fp1 : Int32) (q_nx1 : Int32) (q_tk1 : Int32) (q_st1 : Int32), V' t = some (.inr (7, [.int (q_fk1), .int (q_fp1), .ref (q_tx), .ref (q_ou), .int (q_nx1), .int (q_tk1), .int (q_st1), .ref (q_nm)])) ∧ (0 ≤ q_nx1.toInt ∧ q_nx1.toInt ≤ 4002) ∧ (0 ≤ q_st1.toInt ∧ q_st1.toInt ≤ 4001) ∧ (q_nx1.toInt ≤ 4001 ∨ q_tk1.toInt = 21)) ∧ (∃ (l_o1 : Int32), V' it = some (.inr (5, [.int (l_k), .int (l_o1), .int (l_t), .int (l_p), .int (l_h), .int (l_ht), .int (l_pa), .int (l_la), .ref (l_f), .ref (l_s)]))) ∧ (∀ x, G x = some (5, 1, 0, 0) → x ≠ it → V' x = V x) ∧ (0 ≤ r.toInt ∧ r.toInt ≤ 1))) 0 0 := by
  refine hp_walk (R0 := RX7) (by decide) rfl ?_ (Nat.le_of_ble_eq_true rfl)
  intro p e s m below meth c ls hx hb hr hts hown hlocks hin hml hZ hl
  have hP : hq_P cs G (fun g => g.1 == 3 || g.1 == 4 || (g.1 == 20 && g.2 == 1)) V V := hq_P.rf hI
  have hl : lv_has ls 2 [(0, .ref (t)), (1, .ref (it))] := hl
  have hb_q_fk := hq_rng q_fk
  have hb_q_fp := hq_rng q_fp
  have hb_q_nx := hq_rng q_nx
  have hb_q_tk := hq_rng q_tk
  have hb_q_st := hq_rng q_st
  have hb_l_k := hq_rng l_k
  have hb_l_o := hq_rng l_o
  have hb_l_t := hq_rng l_t
  have hb_l_p := hq_rng l_p
  have hb_l_h := hq_rng l_h
  have hb_l_ht := hq_rng l_ht
  have hb_l_pa := hq_rng l_pa
  have hb_l_la := hq_rng l_la
  refine lv_aload_n hx hb dX7_takeWhere_0 rfl (lv_at hl 0 rfl) ?_
  refine hp_get (v := .int (q_tk)) hx hb hts hown hZ ho_t fl_X7_45 rfl dX7_takeWhere_1 ?_
  refine lv_bipush (v := 14) hx hb dX7_takeWhere_4 (by decide) ?_
  refine lv_icmp_ne (tgt := 15) hx hb dX7_takeWhere_6 (by decide) (fun c1 => ?_) (fun c1 => ?_)
  · have c1 : ¬ (q_tk).toInt = (14 : Int) := fun h9 => c1 (hq_eqi.mpr h9)
    refine lv_aload_n hx hb dX7_takeWhere_15 rfl (lv_at hl 1 rfl) ?_
    refine lv_aload_n hx hb dX7_takeWhere_16 rfl (lv_at hl 0 rfl) ?_
    refine lv_bipush (v := 15) hx hb dX7_takeWhere_17 (by decide) ?_
    have hl17 : (15 : Int32).toInt = 15 := by decide
    refine hp_calli (hp_runV (As := [.int (15)]) (rest := [.ref (it)]) hx hb hml hown hts (t_X7_take_1 l D cs B G  V n hP.1  (t) h_t (15) ho_t h_q_tx h_q_ou h_q_nm (by omega) (by omega) (by omega) (by omega)) hZ ho_t cv_X7_58 rfl rfl ⟨Nat.le_of_ble_eq_true rfl, Nat.le_of_ble_eq_true rfl⟩ rfl hl.1 rfl (Nat.le_of_ble_eq_true rfl) dX7_takeWhere_19 ⟨(Nat.le_of_ble_eq_true rfl), (Nat.le_of_ble_eq_true rfl)⟩) hZ (fun r5 V2 n3 _ _ hw4 hZ => ?_)
    obtain ⟨rfl, hq6, ⟨z8, z9, z10, z11, z12, ho13, hi14, hi15, hi16⟩, hr7⟩ := hw4
    have hP := hP.trans hq6 (by intro g h; simp_all)
    have b18 := hq_rng z8
    have b19 := hq_rng z9
    have b20 := hq_rng z10
    have b21 := hq_rng z11
    have b22 := hq_rng z12
    have b23 := hq_rng r5
    refine lv_if_eq (tgt := 46) hx hb dX7_takeWhere_22 (by decide) (fun c24 => ?_) (fun c24 => ?_)
    · have c24 : (r5).toInt = (0 : Int) := hq_eqi.mp c24
      refine lv_iconst (v := -1) hx hb dX7_takeWhere_46 (by decide) ?_
      have fx25 : V2 (it) = some (.inr (5, [.int (l_k), .int (l_o), .int (l_t), .int (l_p), .int (l_h), .int (l_ht), .int (l_pa), .int (l_la), .ref (l_f), .ref (l_s)])) := (hq6.2 (it) _ h_it rfl).trans (ho_it)
      refine hp_put hx hb hts hown hZ fx25 fp_X7_138 rfl rfl (Nat.le_of_ble_eq_true rfl) dX7_takeWhere_47 (fun V26 _ _ e27 o28 hZ => ?_)
      have e27 : V26 (it) = some (.inr (5, [.int (l_k), .int (-1), .int (l_t), .int (l_p), .int (l_h), .int (l_ht), .int (l_pa), .int (l_la), .ref (l_f), .ref (l_s)])) := e27
      have hP := hP.put h_it e27 o28 (hq_c5 h_l_f h_l_s (show -1 ≤ (l_h).toInt by omega) (show (l_h).toInt ≤ 29 by omega)) rfl
      refine lv_aload_n hx hb dX7_takeWhere_50 rfl (lv_at hl 1 rfl) ?_
      refine hp_get (v := .int (-1)) hx hb hts hown hZ e27 fl_X7_138 rfl dX7_takeWhere_51 ?_
      refine lv_iconst (v := -1) hx hb dX7_takeWhere_54 (by decide) ?_
      refine lv_icmp_eq (tgt := 62) hx hb dX7_takeWhere_55 (by decide) (fun c29 => ?_) (fun c29 => absurd (by decide) c29)
      refine lv_iconst (v := 0) hx hb dX7_takeWhere_62 (by decide) ?_
      have fx30 : V26 (t) = some (.inr (7, [.int (z8), .int (z9), .ref (q_tx), .ref (q_ou), .int (z10), .int (z11), .int (z12), .ref (q_nm)])) := (o28 (t) (hq_tne h_t h_it (by simp))).trans (ho13)
      have hl31 : (-1 : Int32).toInt = -1 := by decide
      exact hp_zret hx hb hr rfl hlocks hZ ⟨rfl, hP, ⟨z8, z9, z10, z11, z12, fx30, by omega, by omega, by omega⟩, ⟨-1, e27⟩, (fun x9 hx9 hne9 => (o28 x9 (hne9)).trans (hq6.2 x9 _ hx9 rfl)), (by decide)⟩ dX7_takeWhere_63
    · have c24 : ¬ (r5).toInt = (0 : Int) := fun h9 => c24 (hq_eqi.mpr h9)
      refine lv_aload_n hx hb dX7_takeWhere_25 rfl (lv_at hl 0 rfl) ?_
      refine lv_aload_n hx hb dX7_takeWhere_26 rfl (lv_at hl 0 rfl) ?_
      refine hp_get (v := .ref (q_ou)) hx hb hts hown hZ ho13 fl_X7_30 rfl dX7_takeWhere_27 ?_
      obtain ⟨u33, u34, u35, u36, z37, z38, z39, eV32, hu40, hu41, hu42, hu43, ⟨h44, h45⟩, ⟨h46, h47⟩, h48, h49⟩ := hq_o6 hP.1 h_q_ou
      refine hp_get (v := .ref (u33)) hx hb hts hown hZ eV32 fl_X7_68 rfl dX7_takeWhere_30 ?_
      refine lv_aload_n hx hb dX7_takeWhere_33 rfl (lv_at hl 0 rfl) ?_
      refine hp_get (v := .ref (q_ou)) hx hb hts hown hZ ho13 fl_X7_30 rfl dX7_takeWhere_34 ?_
      refine hp_get (v := .int (z37)) hx hb hts hown hZ eV32 fl_X7_62 rfl dX7_takeWhere_37 ?_
      refine hp_calli (hp_runV (As := [.ref (u33), .int (z37)]) (rest := [.ref (it)]) hx hb hml hown hts (t_X7_takeName_1 l D cs B G  V2 n hP.1 _ (t) h_t (u33) hu40 (z37) ho13 h_q_tx h_q_ou h_q_nm (by omega) (by omega) (by omega) (by omega) (by decide)) hZ ho13 cv_X7_90 rfl rfl ⟨Nat.le_of_ble_eq_true rfl, Nat.le_of_ble_eq_true rfl⟩ rfl hl.1 rfl (Nat.le_of_ble_eq_true rfl) dX7_takeWhere_40 ⟨(Nat.le_of_ble_eq_true rfl), (Nat.le_of_ble_eq_true rfl)⟩) hZ (fun r53 V50 n51 _ _ hw52 hZ => ?_)
      obtain ⟨rfl, hq54, ⟨z56, z57, z58, z59, z60, ho61, hi62, hi63, hi64⟩, hr55⟩ := hw52
      have hP := hP.trans hq54 (by intro g h; simp_all)
      have b65 := hq_rng z56
      have b66 := hq_rng z57
      have b67 := hq_rng z58
      have b68 := hq_rng z59
      have b69 := hq_rng z60
      have b70 := hq_rng r53
      refine lv_goto (tgt := 47) hx hb dX7_takeWhere_43 (by decide) ?_
      have fx71 : V50 (it) = some (.inr (5, [.int (l_k), .int (l_o), .int (l_t), .int (l_p), .int (l_h), .int (l_ht), .int (l_pa), .int (l_la), .ref (l_f), .ref (l_s)])) := (hq54.2 (it) _ h_it rfl).trans ((hq6.2 (it) _ h_it rfl).trans (ho_it))
      refine hp_put hx hb hts hown hZ fx71 fp_X7_138 rfl rfl (Nat.le_of_ble_eq_true rfl) dX7_takeWhere_47 (fun V72 _ _ e73 o74 hZ => ?_)
      have e73 : V72 (it) = some (.inr (5, [.int (l_k), .int (r53), .int (l_t), .int (l_p), .int (l_h), .int (l_ht), .int (l_pa), .int (l_la), .ref (l_f), .ref (l_s)])) := e73
      have hP := hP.put h_it e73 o74 (hq_c5 h_l_f h_l_s (show -1 ≤ (l_h).toInt by omega) (show (l_h).toInt ≤ 29 by omega)) rfl
      refine lv_aload_n hx hb dX7_takeWhere_50 rfl (lv_at hl 1 rfl) ?_
      refine hp_get (v := .int (r53)) hx hb hts hown hZ e73 fl_X7_138 rfl dX7_takeWhere_51 ?_
      refine lv_iconst (v := -1) hx hb dX7_takeWhere_54 (by decide) ?_
      refine lv_icmp_eq (tgt := 62) hx hb dX7_takeWhere_55 (by decide) (fun c75 => ?_) (fun c75 => ?_)
      · have c75 : (r53).toInt = (-1 : Int) := hq_eqi.mp c75
        refine lv_iconst (v := 0) hx hb dX7_takeWhere_62 (by decide) ?_
        have fx76 : V72 (t) = some (.inr (7, [.int (z56), .int (z57), .ref (q_tx), .ref (q_ou), .int (z58), .int (z59), .int (z60), .ref (q_nm)])) := (o74 (t) (hq_tne h_t h_it (by simp))).trans (ho61)
        exact hp_zret hx hb hr rfl hlocks hZ ⟨rfl, hP, ⟨z56, z57, z58, z59, z60, fx76, by omega, by omega, by omega⟩, ⟨r53, e73⟩, (fun x9 hx9 hne9 => (o74 x9 (hne9)).trans ((hq54.2 x9 _ hx9 rfl).trans (hq6.2 x9 _ hx9 rfl))), (by decide)⟩ dX7_takeWhere_63
      · have c75 : ¬ (r53).toInt = (-1 : Int) := fun h9 => c75 (hq_eqi.mpr h9)
        refine lv_iconst (v := 1) hx hb dX7_takeWhere_58 (by decide) ?_
        refine lv_goto (tgt := 63) hx hb dX7_takeWhere_59 (by decide) ?_
        have fx77 : V72 (t) = some (.inr (7, [.int (z56), .int (z57), .ref (q_tx), .ref (q_ou), .int (z58), .int (z59), .int (z60), .ref (q_nm)])) := (o74 (t) (hq_tne h_t h_it (by simp))).trans (ho61)
        exact hp_zret hx hb hr rfl hlocks hZ ⟨rfl, hP, ⟨z56, z57, z58, z59, z60, fx77, by omega, by omega, by omega⟩, ⟨r53, e73⟩, (fun x9 hx9 hne9 => (o74 x9 (hne9)).trans ((hq54.2 x9 _ hx9 rfl).trans (hq6.2 x9 _ hx9 rfl))), (by decide)⟩ dX7_takeWhere_63
  · have c1 : (q_tk).toInt = (14 : Int) := hq_eqi.mp c1
    refine lv_aload_n hx hb dX7_takeWhere_9 rfl (lv_at hl 0 rfl) ?_
    refine hp_callv (hp_runV (As := []) (rest := []) hx hb hml hown hts (t_X7_step_1 l D cs B G  V n hP.1  (t) h_t ho_t h_q_tx h_q_ou h_q_nm (by omega) (by omega)) hZ ho_t cv_X7_42 rfl rfl ⟨Nat.le_of_ble_eq_true rfl, Nat.le_of_ble_eq_true rfl⟩ rfl hl.1 rfl (Nat.le_of_ble_eq_true rfl) dX7_takeWhere_10 ⟨(Nat.le_of_ble_eq_true rfl), (Nat.le_of_ble_eq_true rfl)⟩) hZ (fun V78 n79 _ _ hw80 hZ => ?_)
    obtain ⟨rfl, hq82, ⟨z84, z85, z86, ho87, hi88⟩⟩ := hw80
    have hP := hP.trans hq82 (by intro g h; simp_all)
    have b89 := hq_rng z84
    have b90 := hq_rng z85
    have b91 := hq_rng z86
    refine lv_iconst (v := 1) hx hb dX7_takeWhere_13 (by decide) ?_
    have fx92 : V78 (it) = some (.inr (5, [.int (l_k), .int (l_o), .int (l_t), .int (l_p), .int (l_h), .int (l_ht), .int (l_pa), .int (l_la), .ref (l_f), .ref (l_s)])) := (hq82.2 (it) _ h_it rfl).trans (ho_it)
    exact hp_zret hx hb hr rfl hlocks hZ ⟨rfl, hP, ⟨q_fk, q_fp, z84, z85, z86, ho87, by omega, by omega, by omega⟩, ⟨l_o, fx92⟩, (fun x9 hx9 hne9 => hq82.2 x9 _ hx9 rfl), (by decide)⟩ dX7_takeWhere_14

set_option maxHeartbeats 4000000 in
set_option maxRecDepth 100000 in
theorem t_X7_takeOwner_1 (l : Launch) (D : va_G) (cs : Nat → ClassId) (B : Nat) (G : hq_G) (V : hp_V) (n : Nat) (hI : hq_I cs G V) (t : Nat) (h_t : G t = some (10, 0, 0, 0)) (it : Nat) (h_it : G it = some (5, 1, 0, 0)) {q_tx q_ou q_nm : Nat} {q_fk q_fp q_nx q_tk q_st : Int32} (ho_t : V t = some (.inr (7, [.int (q_fk), .int (q_fp), .ref (q_tx), .ref (q_ou), .int (q_nx), .int (q_tk), .int (q_st), .ref (q_nm)]))) (h_q_tx : G q_tx = some (0, 4000, 0, 0)) (h_q_ou : G q_ou = some (6, 1, 0, 0)) (h_q_nm : G q_nm = some (0, 12, 0, 0)) (hi_t0 : 0 ≤ q_nx.toInt ∧ q_nx.toInt ≤ 4002) (hi_t1 : 0 ≤ q_st.toInt ∧ q_st.toInt ≤ 4001) (hi_t2 : q_nx.toInt ≤ 4001 ∨ q_tk.toInt = 21) {l_f l_s : Nat} {l_k l_o l_t l_p l_h l_ht l_pa l_la : Int32} (ho_it : V it = some (.inr (5, [.int (l_k), .int (l_o), .int (l_t), .int (l_p), .int (l_h), .int (l_ht), .int (l_pa), .int (l_la), .ref (l_f), .ref (l_s)]))) (h_l_f : G l_f = some (0, 8, 0, 0)) (h_l_s : G l_s = some (0, 8, 0, 0)) (hi_it0 : -1 ≤ l_h.toInt ∧ l_h.toInt ≤ 29) : hp_M l yX7_takeOwner cX7_takeOwner 2 (some .boolean) ({ frames := 8, cells := 0, slots := 0, locals := 175 }) D cs B V n [.ref (t), .ref (it)] (hp_QI D cs B (fun r V' n' => n = n' ∧ hq_P cs G (fun g => g.1 == 3 || g.1 == 4 || (g.1 == 20 && g.2 == 1)) V V' ∧ (∃ (q_fk1 : Int32) (q_fp1 : Int32) (q_nx1 : Int32) (q_tk1 : Int32) (q_st1 : Int32), V' t = some (.inr (7, [.int (q_fk1), .int (q_fp1), .ref (q_tx), .ref (q_ou), .int (q_nx1), .int (q_tk1), .int (q_st1), .ref (q_nm)])) ∧ (0 ≤ q_nx1.toInt ∧ q_nx1.toInt ≤ 4002) ∧ (0 ≤ q_st1.toInt ∧ q_st1.toInt ≤ 4001) ∧ (q_nx1.toInt ≤ 4001 ∨ q_tk1.toInt = 21)) ∧ (∃ (l_o1 : Int32), V' it = some (.inr (5, [.int (l_k), .int (l_o1), .int (l_t), .int (l_p), .int (l_h), .int (l_ht), .int (l_pa), .int (l_la), .ref (l_f), .ref (l_s)]))) ∧ (∀ x, G x = some (5, 1, 0, 0) → x ≠ it → V' x = V x) ∧ (0 ≤ r.toInt ∧ r.toInt ≤ 1))) 0 0 := by
  refine hp_walk (R0 := RX7) (by decide) rfl ?_ (Nat.le_of_ble_eq_true rfl)
  intro p e s m below meth c ls hx hb hr hts hown hlocks hin hml hZ hl
  have hP : hq_P cs G (fun g => g.1 == 3 || g.1 == 4 || (g.1 == 20 && g.2 == 1)) V V := hq_P.rf hI
  have hl : lv_has ls 2 [(0, .ref (t)), (1, .ref (it))] := hl
  have hb_q_fk := hq_rng q_fk
  have hb_q_fp := hq_rng q_fp
  have hb_q_nx := hq_rng q_nx
  have hb_q_tk := hq_rng q_tk
  have hb_q_st := hq_rng q_st
  have hb_l_k := hq_rng l_k
  have hb_l_o := hq_rng l_o
  have hb_l_t := hq_rng l_t
  have hb_l_p := hq_rng l_p
  have hb_l_h := hq_rng l_h
  have hb_l_ht := hq_rng l_ht
  have hb_l_pa := hq_rng l_pa
  have hb_l_la := hq_rng l_la
  refine lv_aload_n hx hb dX7_takeOwner_0 rfl (lv_at hl 1 rfl) ?_
  refine lv_aload_n hx hb dX7_takeOwner_1 rfl (lv_at hl 0 rfl) ?_
  refine lv_aload_n hx hb dX7_takeOwner_2 rfl (lv_at hl 0 rfl) ?_
  refine hp_get (v := .ref (q_ou)) hx hb hts hown hZ ho_t fl_X7_30 rfl dX7_takeOwner_3 ?_
  obtain ⟨u2, u3, u4, u5, z6, z7, z8, eV1, hu9, hu10, hu11, hu12, ⟨h13, h14⟩, ⟨h15, h16⟩, h17, h18⟩ := hq_o6 hP.1 h_q_ou
  refine hp_get (v := .ref (u3)) hx hb hts hown hZ eV1 fl_X7_83 rfl dX7_takeOwner_6 ?_
  refine lv_aload_n hx hb dX7_takeOwner_9 rfl (lv_at hl 0 rfl) ?_
  refine hp_get (v := .ref (q_ou)) hx hb hts hown hZ ho_t fl_X7_30 rfl dX7_takeOwner_10 ?_
  refine hp_get (v := .int (z7)) hx hb hts hown hZ eV1 fl_X7_80 rfl dX7_takeOwner_13 ?_
  refine hp_calli (hp_runV (As := [.ref (u3), .int (z7)]) (rest := [.ref (it)]) hx hb hml hown hts (t_X7_takeName_1 l D cs B G  V n hP.1 _ (t) h_t (u3) hu10 (z7) ho_t h_q_tx h_q_ou h_q_nm (by omega) (by omega) (by omega) (by omega) (by decide)) hZ ho_t cv_X7_90 rfl rfl ⟨Nat.le_of_ble_eq_true rfl, Nat.le_of_ble_eq_true rfl⟩ rfl hl.1 rfl (Nat.le_of_ble_eq_true rfl) dX7_takeOwner_16 ⟨(Nat.le_of_ble_eq_true rfl), (Nat.le_of_ble_eq_true rfl)⟩) hZ (fun r22 V19 n20 _ _ hw21 hZ => ?_)
  obtain ⟨rfl, hq23, ⟨z25, z26, z27, z28, z29, ho30, hi31, hi32, hi33⟩, hr24⟩ := hw21
  have hP := hP.trans hq23 (by intro g h; simp_all)
  have b34 := hq_rng z25
  have b35 := hq_rng z26
  have b36 := hq_rng z27
  have b37 := hq_rng z28
  have b38 := hq_rng z29
  have b39 := hq_rng r22
  have fx40 : V19 (it) = some (.inr (5, [.int (l_k), .int (l_o), .int (l_t), .int (l_p), .int (l_h), .int (l_ht), .int (l_pa), .int (l_la), .ref (l_f), .ref (l_s)])) := (hq23.2 (it) _ h_it rfl).trans (ho_it)
  refine hp_put hx hb hts hown hZ fx40 fp_X7_138 rfl rfl (Nat.le_of_ble_eq_true rfl) dX7_takeOwner_19 (fun V41 _ _ e42 o43 hZ => ?_)
  have e42 : V41 (it) = some (.inr (5, [.int (l_k), .int (r22), .int (l_t), .int (l_p), .int (l_h), .int (l_ht), .int (l_pa), .int (l_la), .ref (l_f), .ref (l_s)])) := e42
  have hP := hP.put h_it e42 o43 (hq_c5 h_l_f h_l_s (show -1 ≤ (l_h).toInt by omega) (show (l_h).toInt ≤ 29 by omega)) rfl
  refine lv_aload_n hx hb dX7_takeOwner_22 rfl (lv_at hl 1 rfl) ?_
  refine hp_get (v := .int (r22)) hx hb hts hown hZ e42 fl_X7_138 rfl dX7_takeOwner_23 ?_
  refine lv_iconst (v := -1) hx hb dX7_takeOwner_26 (by decide) ?_
  refine lv_icmp_eq (tgt := 34) hx hb dX7_takeOwner_27 (by decide) (fun c44 => ?_) (fun c44 => ?_)
  · have c44 : (r22).toInt = (-1 : Int) := hq_eqi.mp c44
    refine lv_iconst (v := 0) hx hb dX7_takeOwner_34 (by decide) ?_
    have fx45 : V41 (t) = some (.inr (7, [.int (z25), .int (z26), .ref (q_tx), .ref (q_ou), .int (z27), .int (z28), .int (z29), .ref (q_nm)])) := (o43 (t) (hq_tne h_t h_it (by simp))).trans (ho30)
    exact hp_zret hx hb hr rfl hlocks hZ ⟨rfl, hP, ⟨z25, z26, z27, z28, z29, fx45, by omega, by omega, by omega⟩, ⟨r22, e42⟩, (fun x9 hx9 hne9 => (o43 x9 (hne9)).trans (hq23.2 x9 _ hx9 rfl)), (by decide)⟩ dX7_takeOwner_35
  · have c44 : ¬ (r22).toInt = (-1 : Int) := fun h9 => c44 (hq_eqi.mpr h9)
    refine lv_iconst (v := 1) hx hb dX7_takeOwner_30 (by decide) ?_
    refine lv_goto (tgt := 35) hx hb dX7_takeOwner_31 (by decide) ?_
    have fx46 : V41 (t) = some (.inr (7, [.int (z25), .int (z26), .ref (q_tx), .ref (q_ou), .int (z27), .int (z28), .int (z29), .ref (q_nm)])) := (o43 (t) (hq_tne h_t h_it (by simp))).trans (ho30)
    exact hp_zret hx hb hr rfl hlocks hZ ⟨rfl, hP, ⟨z25, z26, z27, z28, z29, fx46, by omega, by omega, by omega⟩, ⟨r22, e42⟩, (fun x9 hx9 hne9 => (o43 x9 (hne9)).trans (hq23.2 x9 _ hx9 rfl)), (by decide)⟩ dX7_takeOwner_35

set_option maxHeartbeats 4000000 in
set_option maxRecDepth 100000 in
theorem t_X7_takeSlot_1 (l : Launch) (D : va_G) (cs : Nat → ClassId) (B : Nat) (G : hq_G) (V : hp_V) (n : Nat) (hI : hq_I cs G V) (t : Nat) (h_t : G t = some (10, 0, 0, 0)) (it : Nat) (h_it : G it = some (5, 1, 0, 0)) {q_tx q_ou q_nm : Nat} {q_fk q_fp q_nx q_tk q_st : Int32} (ho_t : V t = some (.inr (7, [.int (q_fk), .int (q_fp), .ref (q_tx), .ref (q_ou), .int (q_nx), .int (q_tk), .int (q_st), .ref (q_nm)]))) (h_q_tx : G q_tx = some (0, 4000, 0, 0)) (h_q_ou : G q_ou = some (6, 1, 0, 0)) (h_q_nm : G q_nm = some (0, 12, 0, 0)) (hi_t0 : 0 ≤ q_nx.toInt ∧ q_nx.toInt ≤ 4002) (hi_t1 : 0 ≤ q_st.toInt ∧ q_st.toInt ≤ 4001) (hi_t2 : q_nx.toInt ≤ 4001 ∨ q_tk.toInt = 21) {l_f l_s : Nat} {l_k l_o l_t l_p l_h l_ht l_pa l_la : Int32} (ho_it : V it = some (.inr (5, [.int (l_k), .int (l_o), .int (l_t), .int (l_p), .int (l_h), .int (l_ht), .int (l_pa), .int (l_la), .ref (l_f), .ref (l_s)]))) (h_l_f : G l_f = some (0, 8, 0, 0)) (h_l_s : G l_s = some (0, 8, 0, 0)) (hi_it0 : -1 ≤ l_h.toInt ∧ l_h.toInt ≤ 29) : hp_M l yX7_takeSlot cX7_takeSlot 2 (some .boolean) ({ frames := 8, cells := 0, slots := 0, locals := 174 }) D cs B V n [.ref (t), .ref (it)] (hp_QI D cs B (fun r V' n' => n = n' ∧ hq_P cs G (fun g => g.1 == 4 || (g.1 == 20 && g.2 == 1)) V V' ∧ (∃ (q_fk1 : Int32) (q_fp1 : Int32) (q_nx1 : Int32) (q_tk1 : Int32) (q_st1 : Int32), V' t = some (.inr (7, [.int (q_fk1), .int (q_fp1), .ref (q_tx), .ref (q_ou), .int (q_nx1), .int (q_tk1), .int (q_st1), .ref (q_nm)])) ∧ (0 ≤ q_nx1.toInt ∧ q_nx1.toInt ≤ 4002) ∧ (0 ≤ q_st1.toInt ∧ q_st1.toInt ≤ 4001) ∧ (q_nx1.toInt ≤ 4001 ∨ q_tk1.toInt = 21)) ∧ (∃ (l_t1 : Int32) (l_p1 : Int32), V' it = some (.inr (5, [.int (l_k), .int (l_o), .int (l_t1), .int (l_p1), .int (l_h), .int (l_ht), .int (l_pa), .int (l_la), .ref (l_f), .ref (l_s)]))) ∧ (∀ x, G x = some (5, 1, 0, 0) → x ≠ it → V' x = V x) ∧ (0 ≤ r.toInt ∧ r.toInt ≤ 1))) 0 0 := by
  refine hp_walk (R0 := RX7) (by decide) rfl ?_ (Nat.le_of_ble_eq_true rfl)
  intro p e s m below meth c ls hx hb hr hts hown hlocks hin hml hZ hl
  have hP : hq_P cs G (fun g => g.1 == 4 || (g.1 == 20 && g.2 == 1)) V V := hq_P.rf hI
  have hl : lv_has ls 2 [(0, .ref (t)), (1, .ref (it))] := hl
  have hb_q_fk := hq_rng q_fk
  have hb_q_fp := hq_rng q_fp
  have hb_q_nx := hq_rng q_nx
  have hb_q_tk := hq_rng q_tk
  have hb_q_st := hq_rng q_st
  have hb_l_k := hq_rng l_k
  have hb_l_o := hq_rng l_o
  have hb_l_t := hq_rng l_t
  have hb_l_p := hq_rng l_p
  have hb_l_h := hq_rng l_h
  have hb_l_ht := hq_rng l_ht
  have hb_l_pa := hq_rng l_pa
  have hb_l_la := hq_rng l_la
  refine lv_aload_n hx hb dX7_takeSlot_0 rfl (lv_at hl 1 rfl) ?_
  refine lv_aload_n hx hb dX7_takeSlot_1 rfl (lv_at hl 0 rfl) ?_
  refine lv_bipush (v := 11) hx hb dX7_takeSlot_2 (by decide) ?_
  have hl16 : (11 : Int32).toInt = 11 := by decide
  refine hp_calli (hp_runV (As := [.int (11)]) (rest := [.ref (it)]) hx hb hml hown hts (t_X7_take_1 l D cs B G  V n hP.1  (t) h_t (11) ho_t h_q_tx h_q_ou h_q_nm (by omega) (by omega) (by omega) (by omega)) hZ ho_t cv_X7_58 rfl rfl ⟨Nat.le_of_ble_eq_true rfl, Nat.le_of_ble_eq_true rfl⟩ rfl hl.1 rfl (Nat.le_of_ble_eq_true rfl) dX7_takeSlot_4 ⟨(Nat.le_of_ble_eq_true rfl), (Nat.le_of_ble_eq_true rfl)⟩) hZ (fun r4 V1 n2 _ _ hw3 hZ => ?_)
  obtain ⟨rfl, hq5, ⟨z7, z8, z9, z10, z11, ho12, hi13, hi14, hi15⟩, hr6⟩ := hw3
  have hP := hP.trans hq5 (by intro g h; simp_all)
  have b17 := hq_rng z7
  have b18 := hq_rng z8
  have b19 := hq_rng z9
  have b20 := hq_rng z10
  have b21 := hq_rng z11
  have b22 := hq_rng r4
  refine lv_if_eq (tgt := 18) hx hb dX7_takeSlot_7 (by decide) (fun c23 => ?_) (fun c23 => ?_)
  · have c23 : (r4).toInt = (0 : Int) := hq_eqi.mp c23
    refine lv_iconst (v := -1) hx hb dX7_takeSlot_18 (by decide) ?_
    have fx24 : V1 (it) = some (.inr (5, [.int (l_k), .int (l_o), .int (l_t), .int (l_p), .int (l_h), .int (l_ht), .int (l_pa), .int (l_la), .ref (l_f), .ref (l_s)])) := (hq5.2 (it) _ h_it rfl).trans (ho_it)
    refine hp_put hx hb hts hown hZ fx24 fp_X7_145 rfl rfl (Nat.le_of_ble_eq_true rfl) dX7_takeSlot_19 (fun V25 _ _ e26 o27 hZ => ?_)
    have e26 : V25 (it) = some (.inr (5, [.int (l_k), .int (l_o), .int (-1), .int (l_p), .int (l_h), .int (l_ht), .int (l_pa), .int (l_la), .ref (l_f), .ref (l_s)])) := e26
    have hP := hP.put h_it e26 o27 (hq_c5 h_l_f h_l_s (show -1 ≤ (l_h).toInt by omega) (show (l_h).toInt ≤ 29 by omega)) rfl
    refine lv_aload_n hx hb dX7_takeSlot_22 rfl (lv_at hl 1 rfl) ?_
    refine hp_get (v := .int (-1)) hx hb hts hown hZ e26 fl_X7_145 rfl dX7_takeSlot_23 ?_
    refine lv_iconst (v := -1) hx hb dX7_takeSlot_26 (by decide) ?_
    refine lv_icmp_eq (tgt := 39) hx hb dX7_takeSlot_27 (by decide) (fun c28 => ?_) (fun c28 => absurd (by decide) c28)
    refine lv_aload_n hx hb dX7_takeSlot_39 rfl (lv_at hl 1 rfl) ?_
    refine hp_get (v := .int (-1)) hx hb hts hown hZ e26 fl_X7_145 rfl dX7_takeSlot_40 ?_
    refine lv_iconst (v := -1) hx hb dX7_takeSlot_43 (by decide) ?_
    refine lv_icmp_eq (tgt := 51) hx hb dX7_takeSlot_44 (by decide) (fun c29 => ?_) (fun c29 => absurd (by decide) c29)
    refine lv_iconst (v := 0) hx hb dX7_takeSlot_51 (by decide) ?_
    have fx30 : V25 (t) = some (.inr (7, [.int (z7), .int (z8), .ref (q_tx), .ref (q_ou), .int (z9), .int (z10), .int (z11), .ref (q_nm)])) := (o27 (t) (hq_tne h_t h_it (by simp))).trans (ho12)
    have hl31 : (-1 : Int32).toInt = -1 := by decide
    exact hp_zret hx hb hr rfl hlocks hZ ⟨rfl, hP, ⟨z7, z8, z9, z10, z11, fx30, by omega, by omega, by omega⟩, ⟨-1, l_p, e26⟩, (fun x9 hx9 hne9 => (o27 x9 (hne9)).trans (hq5.2 x9 _ hx9 rfl)), (by decide)⟩ dX7_takeSlot_52
  · have c23 : ¬ (r4).toInt = (0 : Int) := fun h9 => c23 (hq_eqi.mpr h9)
    refine lv_aload_n hx hb dX7_takeSlot_10 rfl (lv_at hl 0 rfl) ?_
    refine lv_iconst (v := 5) hx hb dX7_takeSlot_11 (by decide) ?_
    have hl47 : (5 : Int32).toInt = 5 := by decide
    refine hp_calli (hp_runV (As := [.int (5)]) (rest := [.ref (it)]) hx hb hml hown hts (t_X7_takeNumber_1 l D cs B G  V1 n hP.1  (t) h_t (5) ho12 h_q_tx h_q_ou h_q_nm (by omega) (by omega) (by omega) ) hZ ho12 cv_X7_141 rfl rfl ⟨Nat.le_of_ble_eq_true rfl, Nat.le_of_ble_eq_true rfl⟩ rfl hl.1 rfl (Nat.le_of_ble_eq_true rfl) dX7_takeSlot_12 ⟨(Nat.le_of_ble_eq_true rfl), (Nat.le_of_ble_eq_true rfl)⟩) hZ (fun r35 V32 n33 _ _ hw34 hZ => ?_)
    obtain ⟨rfl, hq36, ⟨z38, z39, z40, z41, z42, ho43, hi44, hi45, hi46⟩, hr37⟩ := hw34
    have hP := hP.trans hq36 (by intro g h; simp_all)
    have b48 := hq_rng z38
    have b49 := hq_rng z39
    have b50 := hq_rng z40
    have b51 := hq_rng z41
    have b52 := hq_rng z42
    have b53 := hq_rng r35
    refine lv_goto (tgt := 19) hx hb dX7_takeSlot_15 (by decide) ?_
    have fx54 : V32 (it) = some (.inr (5, [.int (l_k), .int (l_o), .int (l_t), .int (l_p), .int (l_h), .int (l_ht), .int (l_pa), .int (l_la), .ref (l_f), .ref (l_s)])) := (hq36.2 (it) _ h_it rfl).trans ((hq5.2 (it) _ h_it rfl).trans (ho_it))
    refine hp_put hx hb hts hown hZ fx54 fp_X7_145 rfl rfl (Nat.le_of_ble_eq_true rfl) dX7_takeSlot_19 (fun V55 _ _ e56 o57 hZ => ?_)
    have e56 : V55 (it) = some (.inr (5, [.int (l_k), .int (l_o), .int (r35), .int (l_p), .int (l_h), .int (l_ht), .int (l_pa), .int (l_la), .ref (l_f), .ref (l_s)])) := e56
    have hP := hP.put h_it e56 o57 (hq_c5 h_l_f h_l_s (show -1 ≤ (l_h).toInt by omega) (show (l_h).toInt ≤ 29 by omega)) rfl
    refine lv_aload_n hx hb dX7_takeSlot_22 rfl (lv_at hl 1 rfl) ?_
    refine hp_get (v := .int (r35)) hx hb hts hown hZ e56 fl_X7_145 rfl dX7_takeSlot_23 ?_
    refine lv_iconst (v := -1) hx hb dX7_takeSlot_26 (by decide) ?_
    refine lv_icmp_eq (tgt := 39) hx hb dX7_takeSlot_27 (by decide) (fun c58 => ?_) (fun c58 => ?_)
    · have c58 : (r35).toInt = (-1 : Int) := hq_eqi.mp c58
      refine lv_aload_n hx hb dX7_takeSlot_39 rfl (lv_at hl 1 rfl) ?_
      refine hp_get (v := .int (r35)) hx hb hts hown hZ e56 fl_X7_145 rfl dX7_takeSlot_40 ?_
      refine lv_iconst (v := -1) hx hb dX7_takeSlot_43 (by decide) ?_
      refine lv_icmp_eq (tgt := 51) hx hb dX7_takeSlot_44 (by decide) (fun c59 => ?_) (fun c59 => ?_)
      · have c59 : (r35).toInt = (-1 : Int) := hq_eqi.mp c59
        refine lv_iconst (v := 0) hx hb dX7_takeSlot_51 (by decide) ?_
        have fx60 : V55 (t) = some (.inr (7, [.int (z38), .int (z39), .ref (q_tx), .ref (q_ou), .int (z40), .int (z41), .int (z42), .ref (q_nm)])) := (o57 (t) (hq_tne h_t h_it (by simp))).trans (ho43)
        exact hp_zret hx hb hr rfl hlocks hZ ⟨rfl, hP, ⟨z38, z39, z40, z41, z42, fx60, by omega, by omega, by omega⟩, ⟨r35, l_p, e56⟩, (fun x9 hx9 hne9 => (o57 x9 (hne9)).trans ((hq36.2 x9 _ hx9 rfl).trans (hq5.2 x9 _ hx9 rfl))), (by decide)⟩ dX7_takeSlot_52
      · have c59 : ¬ (r35).toInt = (-1 : Int) := fun h9 => c59 (hq_eqi.mpr h9)
        refine lv_iconst (v := 1) hx hb dX7_takeSlot_47 (by decide) ?_
        refine lv_goto (tgt := 52) hx hb dX7_takeSlot_48 (by decide) ?_
        have fx61 : V55 (t) = some (.inr (7, [.int (z38), .int (z39), .ref (q_tx), .ref (q_ou), .int (z40), .int (z41), .int (z42), .ref (q_nm)])) := (o57 (t) (hq_tne h_t h_it (by simp))).trans (ho43)
        exact hp_zret hx hb hr rfl hlocks hZ ⟨rfl, hP, ⟨z38, z39, z40, z41, z42, fx61, by omega, by omega, by omega⟩, ⟨r35, l_p, e56⟩, (fun x9 hx9 hne9 => (o57 x9 (hne9)).trans ((hq36.2 x9 _ hx9 rfl).trans (hq5.2 x9 _ hx9 rfl))), (by decide)⟩ dX7_takeSlot_52
    · have c58 : ¬ (r35).toInt = (-1 : Int) := fun h9 => c58 (hq_eqi.mpr h9)
      refine lv_aload_n hx hb dX7_takeSlot_30 rfl (lv_at hl 0 rfl) ?_
      have fx62 : V55 (t) = some (.inr (7, [.int (z38), .int (z39), .ref (q_tx), .ref (q_ou), .int (z40), .int (z41), .int (z42), .ref (q_nm)])) := (o57 (t) (hq_tne h_t h_it (by simp))).trans (ho43)
      refine hp_get (v := .int (z41)) hx hb hts hown hZ fx62 fl_X7_45 rfl dX7_takeSlot_31 ?_
      refine lv_bipush (v := 16) hx hb dX7_takeSlot_34 (by decide) ?_
      refine lv_icmp_eq (tgt := 53) hx hb dX7_takeSlot_36 (by decide) (fun c63 => ?_) (fun c63 => ?_)
      · have c63 : (z41).toInt = (16 : Int) := hq_eqi.mp c63
        refine lv_aload_n hx hb dX7_takeSlot_53 rfl (lv_at hl 0 rfl) ?_
        refine hp_callv (hp_runV (As := []) (rest := []) hx hb hml hown hts (t_X7_step_1 l D cs B G  V55 n hP.1  (t) h_t fx62 h_q_tx h_q_ou h_q_nm (by omega) (by omega)) hZ fx62 cv_X7_42 rfl rfl ⟨Nat.le_of_ble_eq_true rfl, Nat.le_of_ble_eq_true rfl⟩ rfl hl.1 rfl (Nat.le_of_ble_eq_true rfl) dX7_takeSlot_54 ⟨(Nat.le_of_ble_eq_true rfl), (Nat.le_of_ble_eq_true rfl)⟩) hZ (fun V64 n65 _ _ hw66 hZ => ?_)
        obtain ⟨rfl, hq68, ⟨z70, z71, z72, ho73, hi74⟩⟩ := hw66
        have hP := hP.trans hq68 (by intro g h; simp_all)
        have b75 := hq_rng z70
        have b76 := hq_rng z71
        have b77 := hq_rng z72
        refine lv_aload_n hx hb dX7_takeSlot_57 rfl (lv_at hl 1 rfl) ?_
        refine lv_aload_n hx hb dX7_takeSlot_58 rfl (lv_at hl 0 rfl) ?_
        refine lv_bipush (v := 6) hx hb dX7_takeSlot_59 (by decide) ?_
        have hl93 : (6 : Int32).toInt = 6 := by decide
        refine hp_calli (hp_runV (As := [.int (6)]) (rest := [.ref (it)]) hx hb hml hown hts (t_X7_takeNumber_1 l D cs B G  V64 n hP.1  (t) h_t (6) ho73 h_q_tx h_q_ou h_q_nm (by omega) (by omega) (by omega) ) hZ ho73 cv_X7_141 rfl rfl ⟨Nat.le_of_ble_eq_true rfl, Nat.le_of_ble_eq_true rfl⟩ rfl hl.1 rfl (Nat.le_of_ble_eq_true rfl) dX7_takeSlot_61 ⟨(Nat.le_of_ble_eq_true rfl), (Nat.le_of_ble_eq_true rfl)⟩) hZ (fun r81 V78 n79 _ _ hw80 hZ => ?_)
        obtain ⟨rfl, hq82, ⟨z84, z85, z86, z87, z88, ho89, hi90, hi91, hi92⟩, hr83⟩ := hw80
        have hP := hP.trans hq82 (by intro g h; simp_all)
        have b94 := hq_rng z84
        have b95 := hq_rng z85
        have b96 := hq_rng z86
        have b97 := hq_rng z87
        have b98 := hq_rng z88
        have b99 := hq_rng r81
        have fx100 : V78 (it) = some (.inr (5, [.int (l_k), .int (l_o), .int (r35), .int (l_p), .int (l_h), .int (l_ht), .int (l_pa), .int (l_la), .ref (l_f), .ref (l_s)])) := (hq82.2 (it) _ h_it rfl).trans ((hq68.2 (it) _ h_it rfl).trans (e56))
        refine hp_put hx hb hts hown hZ fx100 fp_X7_148 rfl rfl (Nat.le_of_ble_eq_true rfl) dX7_takeSlot_64 (fun V101 _ _ e102 o103 hZ => ?_)
        have e102 : V101 (it) = some (.inr (5, [.int (l_k), .int (l_o), .int (r35), .int (r81), .int (l_h), .int (l_ht), .int (l_pa), .int (l_la), .ref (l_f), .ref (l_s)])) := e102
        have hP := hP.put h_it e102 o103 (hq_c5 h_l_f h_l_s (show -1 ≤ (l_h).toInt by omega) (show (l_h).toInt ≤ 29 by omega)) rfl
        refine lv_aload_n hx hb dX7_takeSlot_67 rfl (lv_at hl 1 rfl) ?_
        refine hp_get (v := .int (r81)) hx hb hts hown hZ e102 fl_X7_148 rfl dX7_takeSlot_68 ?_
        refine lv_iconst (v := -1) hx hb dX7_takeSlot_71 (by decide) ?_
        refine lv_icmp_eq (tgt := 79) hx hb dX7_takeSlot_72 (by decide) (fun c104 => ?_) (fun c104 => ?_)
        · have c104 : (r81).toInt = (-1 : Int) := hq_eqi.mp c104
          refine lv_iconst (v := 0) hx hb dX7_takeSlot_79 (by decide) ?_
          have fx105 : V101 (t) = some (.inr (7, [.int (z84), .int (z85), .ref (q_tx), .ref (q_ou), .int (z86), .int (z87), .int (z88), .ref (q_nm)])) := (o103 (t) (hq_tne h_t h_it (by simp))).trans (ho89)
          exact hp_zret hx hb hr rfl hlocks hZ ⟨rfl, hP, ⟨z84, z85, z86, z87, z88, fx105, by omega, by omega, by omega⟩, ⟨r35, r81, e102⟩, (fun x9 hx9 hne9 => (o103 x9 (hne9)).trans ((hq82.2 x9 _ hx9 rfl).trans ((hq68.2 x9 _ hx9 rfl).trans ((o57 x9 (hne9)).trans ((hq36.2 x9 _ hx9 rfl).trans (hq5.2 x9 _ hx9 rfl)))))), (by decide)⟩ dX7_takeSlot_80
        · have c104 : ¬ (r81).toInt = (-1 : Int) := fun h9 => c104 (hq_eqi.mpr h9)
          refine lv_iconst (v := 1) hx hb dX7_takeSlot_75 (by decide) ?_
          refine lv_goto (tgt := 80) hx hb dX7_takeSlot_76 (by decide) ?_
          have fx106 : V101 (t) = some (.inr (7, [.int (z84), .int (z85), .ref (q_tx), .ref (q_ou), .int (z86), .int (z87), .int (z88), .ref (q_nm)])) := (o103 (t) (hq_tne h_t h_it (by simp))).trans (ho89)
          exact hp_zret hx hb hr rfl hlocks hZ ⟨rfl, hP, ⟨z84, z85, z86, z87, z88, fx106, by omega, by omega, by omega⟩, ⟨r35, r81, e102⟩, (fun x9 hx9 hne9 => (o103 x9 (hne9)).trans ((hq82.2 x9 _ hx9 rfl).trans ((hq68.2 x9 _ hx9 rfl).trans ((o57 x9 (hne9)).trans ((hq36.2 x9 _ hx9 rfl).trans (hq5.2 x9 _ hx9 rfl)))))), (by decide)⟩ dX7_takeSlot_80
      · have c63 : ¬ (z41).toInt = (16 : Int) := fun h9 => c63 (hq_eqi.mpr h9)
        refine lv_aload_n hx hb dX7_takeSlot_39 rfl (lv_at hl 1 rfl) ?_
        refine hp_get (v := .int (r35)) hx hb hts hown hZ e56 fl_X7_145 rfl dX7_takeSlot_40 ?_
        refine lv_iconst (v := -1) hx hb dX7_takeSlot_43 (by decide) ?_
        refine lv_icmp_eq (tgt := 51) hx hb dX7_takeSlot_44 (by decide) (fun c107 => ?_) (fun c107 => ?_)
        · have c107 : (r35).toInt = (-1 : Int) := hq_eqi.mp c107
          refine lv_iconst (v := 0) hx hb dX7_takeSlot_51 (by decide) ?_
          exact hp_zret hx hb hr rfl hlocks hZ ⟨rfl, hP, ⟨z38, z39, z40, z41, z42, fx62, by omega, by omega, by omega⟩, ⟨r35, l_p, e56⟩, (fun x9 hx9 hne9 => (o57 x9 (hne9)).trans ((hq36.2 x9 _ hx9 rfl).trans (hq5.2 x9 _ hx9 rfl))), (by decide)⟩ dX7_takeSlot_52
        · have c107 : ¬ (r35).toInt = (-1 : Int) := fun h9 => c107 (hq_eqi.mpr h9)
          refine lv_iconst (v := 1) hx hb dX7_takeSlot_47 (by decide) ?_
          refine lv_goto (tgt := 52) hx hb dX7_takeSlot_48 (by decide) ?_
          exact hp_zret hx hb hr rfl hlocks hZ ⟨rfl, hP, ⟨z38, z39, z40, z41, z42, fx62, by omega, by omega, by omega⟩, ⟨r35, l_p, e56⟩, (fun x9 hx9 hne9 => (o57 x9 (hne9)).trans ((hq36.2 x9 _ hx9 rfl).trans (hq5.2 x9 _ hx9 rfl))), (by decide)⟩ dX7_takeSlot_52

set_option maxHeartbeats 4000000 in
set_option maxRecDepth 100000 in
theorem t_X7_takeCompound_1 (l : Launch) (D : va_G) (cs : Nat → ClassId) (B : Nat) (G : hq_G) (V : hp_V) (n : Nat) (hI : hq_I cs G V) (t : Nat) (h_t : G t = some (10, 0, 0, 0)) (it : Nat) (h_it : G it = some (5, 1, 0, 0)) {q_tx q_ou q_nm : Nat} {q_fk q_fp q_nx q_tk q_st : Int32} (ho_t : V t = some (.inr (7, [.int (q_fk), .int (q_fp), .ref (q_tx), .ref (q_ou), .int (q_nx), .int (q_tk), .int (q_st), .ref (q_nm)]))) (h_q_tx : G q_tx = some (0, 4000, 0, 0)) (h_q_ou : G q_ou = some (6, 1, 0, 0)) (h_q_nm : G q_nm = some (0, 12, 0, 0)) (hi_t0 : 0 ≤ q_nx.toInt ∧ q_nx.toInt ≤ 4002) (hi_t1 : 0 ≤ q_st.toInt ∧ q_st.toInt ≤ 4001) (hi_t2 : q_nx.toInt ≤ 4001 ∨ q_tk.toInt = 21) {l_f l_s : Nat} {l_k l_o l_t l_p l_h l_ht l_pa l_la : Int32} (ho_it : V it = some (.inr (5, [.int (l_k), .int (l_o), .int (l_t), .int (l_p), .int (l_h), .int (l_ht), .int (l_pa), .int (l_la), .ref (l_f), .ref (l_s)]))) (h_l_f : G l_f = some (0, 8, 0, 0)) (h_l_s : G l_s = some (0, 8, 0, 0)) (hi_it0 : -1 ≤ l_h.toInt ∧ l_h.toInt ≤ 29) : hp_M l yX7_takeCompound cX7_takeCompound 3 (some .boolean) ({ frames := 8, cells := 0, slots := 0, locals := 175 }) D cs B V n [.ref (t), .ref (it)] (hp_QI D cs B (fun r V' n' => n = n' ∧ hq_P cs G (fun g => g.1 == 3 || g.1 == 4 || (g.1 == 20 && g.2 == 1)) V V' ∧ (∃ (q_fk1 : Int32) (q_fp1 : Int32) (q_nx1 : Int32) (q_tk1 : Int32) (q_st1 : Int32), V' t = some (.inr (7, [.int (q_fk1), .int (q_fp1), .ref (q_tx), .ref (q_ou), .int (q_nx1), .int (q_tk1), .int (q_st1), .ref (q_nm)])) ∧ (0 ≤ q_nx1.toInt ∧ q_nx1.toInt ≤ 4002) ∧ (0 ≤ q_st1.toInt ∧ q_st1.toInt ≤ 4001) ∧ (q_nx1.toInt ≤ 4001 ∨ q_tk1.toInt = 21)) ∧ (∃ (l_t1 : Int32) (l_h1 : Int32) (l_ht1 : Int32) (l_pa1 : Int32), V' it = some (.inr (5, [.int (l_k), .int (l_o), .int (l_t1), .int (l_p), .int (l_h1), .int (l_ht1), .int (l_pa1), .int (l_la), .ref (l_f), .ref (l_s)])) ∧ (-1 ≤ l_h1.toInt ∧ l_h1.toInt ≤ 29) ∧ (r.toInt = 0 ∨ 0 ≤ l_h1.toInt)) ∧ (∀ x, G x = some (5, 1, 0, 0) → x ≠ it → V' x = V x) ∧ (0 ≤ r.toInt ∧ r.toInt ≤ 1))) 0 0 := by
  refine hp_walk (R0 := RX7) (by decide) rfl ?_ (Nat.le_of_ble_eq_true rfl)
  intro p e s m below meth c ls hx hb hr hts hown hlocks hin hml hZ hl
  have hP : hq_P cs G (fun g => g.1 == 3 || g.1 == 4 || (g.1 == 20 && g.2 == 1)) V V := hq_P.rf hI
  have hl : lv_has ls 3 [(0, .ref (t)), (1, .ref (it))] := hl
  have hb_q_fk := hq_rng q_fk
  have hb_q_fp := hq_rng q_fp
  have hb_q_nx := hq_rng q_nx
  have hb_q_tk := hq_rng q_tk
  have hb_q_st := hq_rng q_st
  have hb_l_k := hq_rng l_k
  have hb_l_o := hq_rng l_o
  have hb_l_t := hq_rng l_t
  have hb_l_p := hq_rng l_p
  have hb_l_h := hq_rng l_h
  have hb_l_ht := hq_rng l_ht
  have hb_l_pa := hq_rng l_pa
  have hb_l_la := hq_rng l_la
  refine lv_aload_n hx hb dX7_takeCompound_0 rfl (lv_at hl 1 rfl) ?_
  have jn19 : ∀ (V9 : hp_V) (H9 : Heap) (locs9 : List Loc) (ls : Array Slot)  (y19 : Int32) (fk19 : Int32) (fp19 : Int32) (nx19 : Int32) (tk19 : Int32) (st19 : Int32), hp_Z D cs B s V9 H9 n locs9 → hq_P cs G (fun g => g.1 == 3 || g.1 == 4 || (g.1 == 20 && g.2 == 1)) V V9 → (∀ x, G x = some (5, 1, 0, 0) → x ≠ it → V9 x = V x) → V9 (t) = some (.inr (7, [.int (fk19), .int (fp19), .ref (q_tx), .ref (q_ou), .int (nx19), .int (tk19), .int (st19), .ref (q_nm)])) → V9 (it) = some (.inr (5, [.int (l_k), .int (l_o), .int (l_t), .int (l_p), .int (l_h), .int (l_ht), .int (l_pa), .int (l_la), .ref (l_f), .ref (l_s)])) → 0 ≤ nx19.toInt ∧ nx19.toInt ≤ 4002 → 0 ≤ st19.toInt ∧ st19.toInt ≤ 4001 → nx19.toInt ≤ 4001 ∨ tk19.toInt = 21 → lv_has ls 3 [(0, .ref (t)), (1, .ref (it))] → W p l e ({ frames := 8, cells := 0, slots := 0, locals := 175 }) s m ([.ref (t), .ref (it)] : List Value).toArray below meth c H9 locs9 0 0 (MQ below (hp_QI D cs B (fun r V' n' => n = n' ∧ hq_P cs G (fun g => g.1 == 3 || g.1 == 4 || (g.1 == 20 && g.2 == 1)) V V' ∧ (∃ (q_fk1 : Int32) (q_fp1 : Int32) (q_nx1 : Int32) (q_tk1 : Int32) (q_st1 : Int32), V' t = some (.inr (7, [.int (q_fk1), .int (q_fp1), .ref (q_tx), .ref (q_ou), .int (q_nx1), .int (q_tk1), .int (q_st1), .ref (q_nm)])) ∧ (0 ≤ q_nx1.toInt ∧ q_nx1.toInt ≤ 4002) ∧ (0 ≤ q_st1.toInt ∧ q_st1.toInt ≤ 4001) ∧ (q_nx1.toInt ≤ 4001 ∨ q_tk1.toInt = 21)) ∧ (∃ (l_t1 : Int32) (l_h1 : Int32) (l_ht1 : Int32) (l_pa1 : Int32), V' it = some (.inr (5, [.int (l_k), .int (l_o), .int (l_t1), .int (l_p), .int (l_h1), .int (l_ht1), .int (l_pa1), .int (l_la), .ref (l_f), .ref (l_s)])) ∧ (-1 ≤ l_h1.toInt ∧ l_h1.toInt ≤ 29) ∧ (r.toInt = 0 ∨ 0 ≤ l_h1.toInt)) ∧ (∀ x, G x = some (5, 1, 0, 0) → x ≠ it → V' x = V x) ∧ (0 ≤ r.toInt ∧ r.toInt ≤ 1))) ([.ref (t), .ref (it)] : List Value).toArray s 0 0 (hp_F B)) (F0 m 19 ls [.int (y19), .ref (it)]) := by
    intro V9 H9 locs9 ls  y19 fk19 fp19 nx19 tk19 st19 hZ hP lf19 ho1 ho2 hv3 hv4 hv5 hl
    have hb_y19 := hq_rng y19
    have hb_fk19 := hq_rng fk19
    have hb_fp19 := hq_rng fp19
    have hb_nx19 := hq_rng nx19
    have hb_tk19 := hq_rng tk19
    have hb_st19 := hq_rng st19
    have hPj19 := hP
    refine hp_put hx hb hts hown hZ ho2 fp_X7_145 rfl rfl (Nat.le_of_ble_eq_true rfl) dX7_takeCompound_19 (fun V6 _ _ e7 o8 hZ => ?_)
    have e7 : V6 (it) = some (.inr (5, [.int (l_k), .int (l_o), .int (y19), .int (l_p), .int (l_h), .int (l_ht), .int (l_pa), .int (l_la), .ref (l_f), .ref (l_s)])) := e7
    have hP := hP.put h_it e7 o8 (hq_c5 h_l_f h_l_s (show -1 ≤ (l_h).toInt by omega) (show (l_h).toInt ≤ 29 by omega)) rfl
    have fx9 : V6 (t) = some (.inr (7, [.int (fk19), .int (fp19), .ref (q_tx), .ref (q_ou), .int (nx19), .int (tk19), .int (st19), .ref (q_nm)])) := (o8 (t) (hq_tne h_t h_it (by simp))).trans (ho1)
    have jn44 : ∀ (V9 : hp_V) (H9 : Heap) (locs9 : List Loc) (ls : Array Slot)  (y44 : Int32) (fk44 : Int32) (fp44 : Int32) (nx44 : Int32) (tk44 : Int32) (st44 : Int32), hp_Z D cs B s V9 H9 n locs9 → hq_P cs G (fun g => g.1 == 3 || g.1 == 4 || (g.1 == 20 && g.2 == 1)) V V9 → (∀ x, G x = some (5, 1, 0, 0) → x ≠ it → V9 x = V x) → V9 (t) = some (.inr (7, [.int (fk44), .int (fp44), .ref (q_tx), .ref (q_ou), .int (nx44), .int (tk44), .int (st44), .ref (q_nm)])) → V9 (it) = some (.inr (5, [.int (l_k), .int (l_o), .int (y19), .int (l_p), .int (l_h), .int (l_ht), .int (l_pa), .int (l_la), .ref (l_f), .ref (l_s)])) → 0 ≤ nx44.toInt ∧ nx44.toInt ≤ 4002 → 0 ≤ st44.toInt ∧ st44.toInt ≤ 4001 → nx44.toInt ≤ 4001 ∨ tk44.toInt = 21 → lv_has ls 3 [(0, .ref (t)), (1, .ref (it))] → W p l e ({ frames := 8, cells := 0, slots := 0, locals := 175 }) s m ([.ref (t), .ref (it)] : List Value).toArray below meth c H9 locs9 0 0 (MQ below (hp_QI D cs B (fun r V' n' => n = n' ∧ hq_P cs G (fun g => g.1 == 3 || g.1 == 4 || (g.1 == 20 && g.2 == 1)) V V' ∧ (∃ (q_fk1 : Int32) (q_fp1 : Int32) (q_nx1 : Int32) (q_tk1 : Int32) (q_st1 : Int32), V' t = some (.inr (7, [.int (q_fk1), .int (q_fp1), .ref (q_tx), .ref (q_ou), .int (q_nx1), .int (q_tk1), .int (q_st1), .ref (q_nm)])) ∧ (0 ≤ q_nx1.toInt ∧ q_nx1.toInt ≤ 4002) ∧ (0 ≤ q_st1.toInt ∧ q_st1.toInt ≤ 4001) ∧ (q_nx1.toInt ≤ 4001 ∨ q_tk1.toInt = 21)) ∧ (∃ (l_t1 : Int32) (l_h1 : Int32) (l_ht1 : Int32) (l_pa1 : Int32), V' it = some (.inr (5, [.int (l_k), .int (l_o), .int (l_t1), .int (l_p), .int (l_h1), .int (l_ht1), .int (l_pa1), .int (l_la), .ref (l_f), .ref (l_s)])) ∧ (-1 ≤ l_h1.toInt ∧ l_h1.toInt ≤ 29) ∧ (r.toInt = 0 ∨ 0 ≤ l_h1.toInt)) ∧ (∀ x, G x = some (5, 1, 0, 0) → x ≠ it → V' x = V x) ∧ (0 ≤ r.toInt ∧ r.toInt ≤ 1))) ([.ref (t), .ref (it)] : List Value).toArray s 0 0 (hp_F B)) (F0 m 44 ls [.int (y44)]) := by
      intro V9 H9 locs9 ls  y44 fk44 fp44 nx44 tk44 st44 hZ hP lf44 ho10 ho11 hv12 hv13 hv14 hl
      have hb_y44 := hq_rng y44
      have hb_fk44 := hq_rng fk44
      have hb_fp44 := hq_rng fp44
      have hb_nx44 := hq_rng nx44
      have hb_tk44 := hq_rng tk44
      have hb_st44 := hq_rng st44
      have hPj44 := hP
      refine lv_istore_n (lv' := [(2, .int (y44)), (0, .ref (t)), (1, .ref (it))]) hx hb dX7_takeCompound_44 rfl hl (by decide) rfl (fun ls hl => ?_)
      refine lv_aload_n hx hb dX7_takeCompound_45 rfl (lv_at hl 2 rfl) ?_
      have jn72 : ∀ (V9 : hp_V) (H9 : Heap) (locs9 : List Loc) (ls : Array Slot)  (y72 : Int32) (fk72 : Int32) (fp72 : Int32) (nx72 : Int32) (tk72 : Int32) (st72 : Int32), hp_Z D cs B s V9 H9 n locs9 → hq_P cs G (fun g => g.1 == 3 || g.1 == 4 || (g.1 == 20 && g.2 == 1)) V V9 → (∀ x, G x = some (5, 1, 0, 0) → x ≠ it → V9 x = V x) → V9 (t) = some (.inr (7, [.int (fk72), .int (fp72), .ref (q_tx), .ref (q_ou), .int (nx72), .int (tk72), .int (st72), .ref (q_nm)])) → V9 (it) = some (.inr (5, [.int (l_k), .int (l_o), .int (y19), .int (l_p), .int (l_h), .int (l_ht), .int (l_pa), .int (l_la), .ref (l_f), .ref (l_s)])) → 0 ≤ nx72.toInt ∧ nx72.toInt ≤ 4002 → 0 ≤ st72.toInt ∧ st72.toInt ≤ 4001 → nx72.toInt ≤ 4001 ∨ tk72.toInt = 21 → -1 ≤ y72.toInt ∧ y72.toInt ≤ 29 → lv_has ls 3 [(2, .int (y44)), (0, .ref (t)), (1, .ref (it))] → W p l e ({ frames := 8, cells := 0, slots := 0, locals := 175 }) s m ([.ref (t), .ref (it)] : List Value).toArray below meth c H9 locs9 0 0 (MQ below (hp_QI D cs B (fun r V' n' => n = n' ∧ hq_P cs G (fun g => g.1 == 3 || g.1 == 4 || (g.1 == 20 && g.2 == 1)) V V' ∧ (∃ (q_fk1 : Int32) (q_fp1 : Int32) (q_nx1 : Int32) (q_tk1 : Int32) (q_st1 : Int32), V' t = some (.inr (7, [.int (q_fk1), .int (q_fp1), .ref (q_tx), .ref (q_ou), .int (q_nx1), .int (q_tk1), .int (q_st1), .ref (q_nm)])) ∧ (0 ≤ q_nx1.toInt ∧ q_nx1.toInt ≤ 4002) ∧ (0 ≤ q_st1.toInt ∧ q_st1.toInt ≤ 4001) ∧ (q_nx1.toInt ≤ 4001 ∨ q_tk1.toInt = 21)) ∧ (∃ (l_t1 : Int32) (l_h1 : Int32) (l_ht1 : Int32) (l_pa1 : Int32), V' it = some (.inr (5, [.int (l_k), .int (l_o), .int (l_t1), .int (l_p), .int (l_h1), .int (l_ht1), .int (l_pa1), .int (l_la), .ref (l_f), .ref (l_s)])) ∧ (-1 ≤ l_h1.toInt ∧ l_h1.toInt ≤ 29) ∧ (r.toInt = 0 ∨ 0 ≤ l_h1.toInt)) ∧ (∀ x, G x = some (5, 1, 0, 0) → x ≠ it → V' x = V x) ∧ (0 ≤ r.toInt ∧ r.toInt ≤ 1))) ([.ref (t), .ref (it)] : List Value).toArray s 0 0 (hp_F B)) (F0 m 72 ls [.int (y72), .ref (it)]) := by
        intro V9 H9 locs9 ls  y72 fk72 fp72 nx72 tk72 st72 hZ hP lf72 ho15 ho16 hv17 hv18 hv19 hv20 hl
        have hb_y72 := hq_rng y72
        have hb_fk72 := hq_rng fk72
        have hb_fp72 := hq_rng fp72
        have hb_nx72 := hq_rng nx72
        have hb_tk72 := hq_rng tk72
        have hb_st72 := hq_rng st72
        have hPj72 := hP
        refine hp_put hx hb hts hown hZ ho16 fp_X7_161 rfl rfl (Nat.le_of_ble_eq_true rfl) dX7_takeCompound_72 (fun V21 _ _ e22 o23 hZ => ?_)
        have e22 : V21 (it) = some (.inr (5, [.int (l_k), .int (l_o), .int (y19), .int (l_p), .int (y72), .int (l_ht), .int (l_pa), .int (l_la), .ref (l_f), .ref (l_s)])) := e22
        have hP := hP.put h_it e22 o23 (hq_c5 h_l_f h_l_s (show -1 ≤ (y72).toInt by omega) (show (y72).toInt ≤ 29 by omega)) rfl
        refine lv_aload_n hx hb dX7_takeCompound_75 rfl (lv_at hl 2 rfl) ?_
        have fx24 : V21 (t) = some (.inr (7, [.int (fk72), .int (fp72), .ref (q_tx), .ref (q_ou), .int (nx72), .int (tk72), .int (st72), .ref (q_nm)])) := (o23 (t) (hq_tne h_t h_it (by simp))).trans (ho15)
        have jn102 : ∀ (V9 : hp_V) (H9 : Heap) (locs9 : List Loc) (ls : Array Slot)  (y102 : Int32) (fk102 : Int32) (fp102 : Int32) (nx102 : Int32) (tk102 : Int32) (st102 : Int32), hp_Z D cs B s V9 H9 n locs9 → hq_P cs G (fun g => g.1 == 3 || g.1 == 4 || (g.1 == 20 && g.2 == 1)) V V9 → (∀ x, G x = some (5, 1, 0, 0) → x ≠ it → V9 x = V x) → V9 (t) = some (.inr (7, [.int (fk102), .int (fp102), .ref (q_tx), .ref (q_ou), .int (nx102), .int (tk102), .int (st102), .ref (q_nm)])) → V9 (it) = some (.inr (5, [.int (l_k), .int (l_o), .int (y19), .int (l_p), .int (y72), .int (l_ht), .int (l_pa), .int (l_la), .ref (l_f), .ref (l_s)])) → 0 ≤ nx102.toInt ∧ nx102.toInt ≤ 4002 → 0 ≤ st102.toInt ∧ st102.toInt ≤ 4001 → nx102.toInt ≤ 4001 ∨ tk102.toInt = 21 → y102.toInt = -1 ∨ ¬ y72.toInt = -1 → lv_has ls 3 [(2, .int (y44)), (0, .ref (t)), (1, .ref (it))] → W p l e ({ frames := 8, cells := 0, slots := 0, locals := 175 }) s m ([.ref (t), .ref (it)] : List Value).toArray below meth c H9 locs9 0 0 (MQ below (hp_QI D cs B (fun r V' n' => n = n' ∧ hq_P cs G (fun g => g.1 == 3 || g.1 == 4 || (g.1 == 20 && g.2 == 1)) V V' ∧ (∃ (q_fk1 : Int32) (q_fp1 : Int32) (q_nx1 : Int32) (q_tk1 : Int32) (q_st1 : Int32), V' t = some (.inr (7, [.int (q_fk1), .int (q_fp1), .ref (q_tx), .ref (q_ou), .int (q_nx1), .int (q_tk1), .int (q_st1), .ref (q_nm)])) ∧ (0 ≤ q_nx1.toInt ∧ q_nx1.toInt ≤ 4002) ∧ (0 ≤ q_st1.toInt ∧ q_st1.toInt ≤ 4001) ∧ (q_nx1.toInt ≤ 4001 ∨ q_tk1.toInt = 21)) ∧ (∃ (l_t1 : Int32) (l_h1 : Int32) (l_ht1 : Int32) (l_pa1 : Int32), V' it = some (.inr (5, [.int (l_k), .int (l_o), .int (l_t1), .int (l_p), .int (l_h1), .int (l_ht1), .int (l_pa1), .int (l_la), .ref (l_f), .ref (l_s)])) ∧ (-1 ≤ l_h1.toInt ∧ l_h1.toInt ≤ 29) ∧ (r.toInt = 0 ∨ 0 ≤ l_h1.toInt)) ∧ (∀ x, G x = some (5, 1, 0, 0) → x ≠ it → V' x = V x) ∧ (0 ≤ r.toInt ∧ r.toInt ≤ 1))) ([.ref (t), .ref (it)] : List Value).toArray s 0 0 (hp_F B)) (F0 m 102 ls [.int (y102), .ref (it)]) := by
          intro V9 H9 locs9 ls  y102 fk102 fp102 nx102 tk102 st102 hZ hP lf102 ho25 ho26 hv27 hv28 hv29 hv30 hl
          have hb_y102 := hq_rng y102
          have hb_fk102 := hq_rng fk102
          have hb_fp102 := hq_rng fp102
          have hb_nx102 := hq_rng nx102
          have hb_tk102 := hq_rng tk102
          have hb_st102 := hq_rng st102
          have hPj102 := hP
          refine hp_put hx hb hts hown hZ ho26 fp_X7_164 rfl rfl (Nat.le_of_ble_eq_true rfl) dX7_takeCompound_102 (fun V31 _ _ e32 o33 hZ => ?_)
          have e32 : V31 (it) = some (.inr (5, [.int (l_k), .int (l_o), .int (y19), .int (l_p), .int (y72), .int (y102), .int (l_pa), .int (l_la), .ref (l_f), .ref (l_s)])) := e32
          have hP := hP.put h_it e32 o33 (hq_c5 h_l_f h_l_s (show -1 ≤ (y72).toInt by omega) (show (y72).toInt ≤ 29 by omega)) rfl
          refine lv_aload_n hx hb dX7_takeCompound_105 rfl (lv_at hl 2 rfl) ?_
          have fx34 : V31 (t) = some (.inr (7, [.int (fk102), .int (fp102), .ref (q_tx), .ref (q_ou), .int (nx102), .int (tk102), .int (st102), .ref (q_nm)])) := (o33 (t) (hq_tne h_t h_it (by simp))).trans (ho25)
          have jn132 : ∀ (V9 : hp_V) (H9 : Heap) (locs9 : List Loc) (ls : Array Slot)  (y132 : Int32) (fk132 : Int32) (fp132 : Int32) (nx132 : Int32) (tk132 : Int32) (st132 : Int32), hp_Z D cs B s V9 H9 n locs9 → hq_P cs G (fun g => g.1 == 3 || g.1 == 4 || (g.1 == 20 && g.2 == 1)) V V9 → (∀ x, G x = some (5, 1, 0, 0) → x ≠ it → V9 x = V x) → V9 (t) = some (.inr (7, [.int (fk132), .int (fp132), .ref (q_tx), .ref (q_ou), .int (nx132), .int (tk132), .int (st132), .ref (q_nm)])) → V9 (it) = some (.inr (5, [.int (l_k), .int (l_o), .int (y19), .int (l_p), .int (y72), .int (y102), .int (l_pa), .int (l_la), .ref (l_f), .ref (l_s)])) → 0 ≤ nx132.toInt ∧ nx132.toInt ≤ 4002 → 0 ≤ st132.toInt ∧ st132.toInt ≤ 4001 → nx132.toInt ≤ 4001 ∨ tk132.toInt = 21 → y132.toInt = -1 ∨ ¬ y102.toInt = -1 → lv_has ls 3 [(2, .int (y44)), (0, .ref (t)), (1, .ref (it))] → W p l e ({ frames := 8, cells := 0, slots := 0, locals := 175 }) s m ([.ref (t), .ref (it)] : List Value).toArray below meth c H9 locs9 0 0 (MQ below (hp_QI D cs B (fun r V' n' => n = n' ∧ hq_P cs G (fun g => g.1 == 3 || g.1 == 4 || (g.1 == 20 && g.2 == 1)) V V' ∧ (∃ (q_fk1 : Int32) (q_fp1 : Int32) (q_nx1 : Int32) (q_tk1 : Int32) (q_st1 : Int32), V' t = some (.inr (7, [.int (q_fk1), .int (q_fp1), .ref (q_tx), .ref (q_ou), .int (q_nx1), .int (q_tk1), .int (q_st1), .ref (q_nm)])) ∧ (0 ≤ q_nx1.toInt ∧ q_nx1.toInt ≤ 4002) ∧ (0 ≤ q_st1.toInt ∧ q_st1.toInt ≤ 4001) ∧ (q_nx1.toInt ≤ 4001 ∨ q_tk1.toInt = 21)) ∧ (∃ (l_t1 : Int32) (l_h1 : Int32) (l_ht1 : Int32) (l_pa1 : Int32), V' it = some (.inr (5, [.int (l_k), .int (l_o), .int (l_t1), .int (l_p), .int (l_h1), .int (l_ht1), .int (l_pa1), .int (l_la), .ref (l_f), .ref (l_s)])) ∧ (-1 ≤ l_h1.toInt ∧ l_h1.toInt ≤ 29) ∧ (r.toInt = 0 ∨ 0 ≤ l_h1.toInt)) ∧ (∀ x, G x = some (5, 1, 0, 0) → x ≠ it → V' x = V x) ∧ (0 ≤ r.toInt ∧ r.toInt ≤ 1))) ([.ref (t), .ref (it)] : List Value).toArray s 0 0 (hp_F B)) (F0 m 132 ls [.int (y132), .ref (it)]) := by
            intro V9 H9 locs9 ls  y132 fk132 fp132 nx132 tk132 st132 hZ hP lf132 ho35 ho36 hv37 hv38 hv39 hv40 hl
            have hb_y132 := hq_rng y132
            have hb_fk132 := hq_rng fk132
            have hb_fp132 := hq_rng fp132
            have hb_nx132 := hq_rng nx132
            have hb_tk132 := hq_rng tk132
            have hb_st132 := hq_rng st132
            have hPj132 := hP
            refine hp_put hx hb hts hown hZ ho36 fp_X7_167 rfl rfl (Nat.le_of_ble_eq_true rfl) dX7_takeCompound_132 (fun V41 _ _ e42 o43 hZ => ?_)
            have e42 : V41 (it) = some (.inr (5, [.int (l_k), .int (l_o), .int (y19), .int (l_p), .int (y72), .int (y102), .int (y132), .int (l_la), .ref (l_f), .ref (l_s)])) := e42
            have hP := hP.put h_it e42 o43 (hq_c5 h_l_f h_l_s (show -1 ≤ (y72).toInt by omega) (show (y72).toInt ≤ 29 by omega)) rfl
            refine lv_aload_n hx hb dX7_takeCompound_135 rfl (lv_at hl 2 rfl) ?_
            refine hp_get (v := .int (y132)) hx hb hts hown hZ e42 fl_X7_167 rfl dX7_takeCompound_136 ?_
            refine lv_iconst (v := -1) hx hb dX7_takeCompound_139 (by decide) ?_
            refine lv_icmp_eq (tgt := 147) hx hb dX7_takeCompound_140 (by decide) (fun c44 => ?_) (fun c44 => ?_)
            · have c44 : (y132).toInt = (-1 : Int) := hq_eqi.mp c44
              refine lv_iconst (v := 0) hx hb dX7_takeCompound_147 (by decide) ?_
              have fx45 : V41 (t) = some (.inr (7, [.int (fk132), .int (fp132), .ref (q_tx), .ref (q_ou), .int (nx132), .int (tk132), .int (st132), .ref (q_nm)])) := (o43 (t) (hq_tne h_t h_it (by simp))).trans (ho35)
              exact hp_zret hx hb hr rfl hlocks hZ ⟨rfl, hP, ⟨fk132, fp132, nx132, tk132, st132, fx45, by omega, by omega, by omega⟩, ⟨y19, y72, y102, y132, e42, by omega, by have h0 : (0 : Int32).toInt = 0 := rfl; have h1 : (1 : Int32).toInt = 1 := rfl; omega⟩, (fun x9 hx9 hne9 => (o43 x9 (hne9)).trans (lf132 x9 hx9 hne9)), (by decide)⟩ dX7_takeCompound_148
            · have c44 : ¬ (y132).toInt = (-1 : Int) := fun h9 => c44 (hq_eqi.mpr h9)
              refine lv_iconst (v := 1) hx hb dX7_takeCompound_143 (by decide) ?_
              refine lv_goto (tgt := 148) hx hb dX7_takeCompound_144 (by decide) ?_
              have fx46 : V41 (t) = some (.inr (7, [.int (fk132), .int (fp132), .ref (q_tx), .ref (q_ou), .int (nx132), .int (tk132), .int (st132), .ref (q_nm)])) := (o43 (t) (hq_tne h_t h_it (by simp))).trans (ho35)
              exact hp_zret hx hb hr rfl hlocks hZ ⟨rfl, hP, ⟨fk132, fp132, nx132, tk132, st132, fx46, by omega, by omega, by omega⟩, ⟨y19, y72, y102, y132, e42, by omega, by have h0 : (0 : Int32).toInt = 0 := rfl; have h1 : (1 : Int32).toInt = 1 := rfl; omega⟩, (fun x9 hx9 hne9 => (o43 x9 (hne9)).trans (lf132 x9 hx9 hne9)), (by decide)⟩ dX7_takeCompound_148
          refine lv_aload_n hx hb dX7_takeCompound_106 rfl (lv_at hl 2 rfl) ?_
          refine hp_get (v := .int (y102)) hx hb hts hown hZ e32 fl_X7_164 rfl dX7_takeCompound_107 ?_
          refine lv_iconst (v := -1) hx hb dX7_takeCompound_110 (by decide) ?_
          refine lv_icmp_eq (tgt := 131) hx hb dX7_takeCompound_111 (by decide) (fun c47 => ?_) (fun c47 => ?_)
          · have c47 : (y102).toInt = (-1 : Int) := hq_eqi.mp c47
            refine lv_iconst (v := -1) hx hb dX7_takeCompound_131 (by decide) ?_
            have hl48 : (-1 : Int32).toInt = -1 := by decide
            exact jn132 _ _ _ ls (-1) (fk102) (fp102) (nx102) (tk102) (st102) hZ hP (fun x9 hx9 hne9 => (o33 x9 (hne9)).trans (lf102 x9 hx9 hne9)) fx34 e32 (by omega) (by omega) (by omega) (by omega) (lv_sub hl [0, 1, 2] rfl)
          · have c47 : ¬ (y102).toInt = (-1 : Int) := fun h9 => c47 (hq_eqi.mpr h9)
            refine lv_aload_n hx hb dX7_takeCompound_114 rfl (lv_at hl 1 rfl) ?_
            refine lv_bipush (v := 13) hx hb dX7_takeCompound_115 (by decide) ?_
            have hl64 : (13 : Int32).toInt = 13 := by decide
            refine hp_calli (hp_runV (As := [.int (13)]) (rest := [.ref (it)]) hx hb hml hown hts (t_X7_take_1 l D cs B G  V31 n hP.1  (t) h_t (13) fx34 h_q_tx h_q_ou h_q_nm (by omega) (by omega) (by omega) (by omega)) hZ fx34 cv_X7_58 rfl rfl ⟨Nat.le_of_ble_eq_true rfl, Nat.le_of_ble_eq_true rfl⟩ rfl hl.1 rfl (Nat.le_of_ble_eq_true rfl) dX7_takeCompound_117 ⟨(Nat.le_of_ble_eq_true rfl), (Nat.le_of_ble_eq_true rfl)⟩) hZ (fun r52 V49 n50 _ _ hw51 hZ => ?_)
            obtain ⟨rfl, hq53, ⟨z55, z56, z57, z58, z59, ho60, hi61, hi62, hi63⟩, hr54⟩ := hw51
            have hP := hP.trans hq53 (by intro g h; simp_all)
            have b65 := hq_rng z55
            have b66 := hq_rng z56
            have b67 := hq_rng z57
            have b68 := hq_rng z58
            have b69 := hq_rng z59
            have b70 := hq_rng r52
            refine lv_if_eq (tgt := 131) hx hb dX7_takeCompound_120 (by decide) (fun c71 => ?_) (fun c71 => ?_)
            · have c71 : (r52).toInt = (0 : Int) := hq_eqi.mp c71
              refine lv_iconst (v := -1) hx hb dX7_takeCompound_131 (by decide) ?_
              have hl72 : (-1 : Int32).toInt = -1 := by decide
              have fx73 : V49 (it) = some (.inr (5, [.int (l_k), .int (l_o), .int (y19), .int (l_p), .int (y72), .int (y102), .int (l_pa), .int (l_la), .ref (l_f), .ref (l_s)])) := (hq53.2 (it) _ h_it rfl).trans (e32)
              exact jn132 _ _ _ ls (-1) (z55) (z56) (z57) (z58) (z59) hZ hP (fun x9 hx9 hne9 => (hq53.2 x9 _ hx9 rfl).trans ((o33 x9 (hne9)).trans (lf102 x9 hx9 hne9))) ho60 fx73 (by omega) (by omega) (by omega) (by omega) (lv_sub hl [0, 1, 2] rfl)
            · have c71 : ¬ (r52).toInt = (0 : Int) := fun h9 => c71 (hq_eqi.mpr h9)
              refine lv_aload_n hx hb dX7_takeCompound_123 rfl (lv_at hl 1 rfl) ?_
              refine lv_iconst (v := 5) hx hb dX7_takeCompound_124 (by decide) ?_
              have hl89 : (5 : Int32).toInt = 5 := by decide
              refine hp_calli (hp_runV (As := [.int (5)]) (rest := [.ref (it)]) hx hb hml hown hts (t_X7_takeNumber_1 l D cs B G  V49 n hP.1  (t) h_t (5) ho60 h_q_tx h_q_ou h_q_nm (by omega) (by omega) (by omega) ) hZ ho60 cv_X7_141 rfl rfl ⟨Nat.le_of_ble_eq_true rfl, Nat.le_of_ble_eq_true rfl⟩ rfl hl.1 rfl (Nat.le_of_ble_eq_true rfl) dX7_takeCompound_125 ⟨(Nat.le_of_ble_eq_true rfl), (Nat.le_of_ble_eq_true rfl)⟩) hZ (fun r77 V74 n75 _ _ hw76 hZ => ?_)
              obtain ⟨rfl, hq78, ⟨z80, z81, z82, z83, z84, ho85, hi86, hi87, hi88⟩, hr79⟩ := hw76
              have hP := hP.trans hq78 (by intro g h; simp_all)
              have b90 := hq_rng z80
              have b91 := hq_rng z81
              have b92 := hq_rng z82
              have b93 := hq_rng z83
              have b94 := hq_rng z84
              have b95 := hq_rng r77
              refine lv_goto (tgt := 132) hx hb dX7_takeCompound_128 (by decide) ?_
              have fx96 : V74 (it) = some (.inr (5, [.int (l_k), .int (l_o), .int (y19), .int (l_p), .int (y72), .int (y102), .int (l_pa), .int (l_la), .ref (l_f), .ref (l_s)])) := (hq78.2 (it) _ h_it rfl).trans ((hq53.2 (it) _ h_it rfl).trans (e32))
              exact jn132 _ _ _ ls (r77) (z80) (z81) (z82) (z83) (z84) hZ hP (fun x9 hx9 hne9 => (hq78.2 x9 _ hx9 rfl).trans ((hq53.2 x9 _ hx9 rfl).trans ((o33 x9 (hne9)).trans (lf102 x9 hx9 hne9)))) ho85 fx96 (by omega) (by omega) (by omega) (by omega) (lv_sub hl [0, 1, 2] rfl)
        refine lv_aload_n hx hb dX7_takeCompound_76 rfl (lv_at hl 2 rfl) ?_
        refine hp_get (v := .int (y72)) hx hb hts hown hZ e22 fl_X7_161 rfl dX7_takeCompound_77 ?_
        refine lv_iconst (v := -1) hx hb dX7_takeCompound_80 (by decide) ?_
        refine lv_icmp_eq (tgt := 101) hx hb dX7_takeCompound_81 (by decide) (fun c97 => ?_) (fun c97 => ?_)
        · have c97 : (y72).toInt = (-1 : Int) := hq_eqi.mp c97
          refine lv_iconst (v := -1) hx hb dX7_takeCompound_101 (by decide) ?_
          have hl98 : (-1 : Int32).toInt = -1 := by decide
          exact jn102 _ _ _ ls (-1) (fk72) (fp72) (nx72) (tk72) (st72) hZ hP (fun x9 hx9 hne9 => (o23 x9 (hne9)).trans (lf72 x9 hx9 hne9)) fx24 e22 (by omega) (by omega) (by omega) (by omega) (lv_sub hl [0, 1, 2] rfl)
        · have c97 : ¬ (y72).toInt = (-1 : Int) := fun h9 => c97 (hq_eqi.mpr h9)
          refine lv_aload_n hx hb dX7_takeCompound_84 rfl (lv_at hl 1 rfl) ?_
          refine lv_bipush (v := 11) hx hb dX7_takeCompound_85 (by decide) ?_
          have hl114 : (11 : Int32).toInt = 11 := by decide
          refine hp_calli (hp_runV (As := [.int (11)]) (rest := [.ref (it)]) hx hb hml hown hts (t_X7_take_1 l D cs B G  V21 n hP.1  (t) h_t (11) fx24 h_q_tx h_q_ou h_q_nm (by omega) (by omega) (by omega) (by omega)) hZ fx24 cv_X7_58 rfl rfl ⟨Nat.le_of_ble_eq_true rfl, Nat.le_of_ble_eq_true rfl⟩ rfl hl.1 rfl (Nat.le_of_ble_eq_true rfl) dX7_takeCompound_87 ⟨(Nat.le_of_ble_eq_true rfl), (Nat.le_of_ble_eq_true rfl)⟩) hZ (fun r102 V99 n100 _ _ hw101 hZ => ?_)
          obtain ⟨rfl, hq103, ⟨z105, z106, z107, z108, z109, ho110, hi111, hi112, hi113⟩, hr104⟩ := hw101
          have hP := hP.trans hq103 (by intro g h; simp_all)
          have b115 := hq_rng z105
          have b116 := hq_rng z106
          have b117 := hq_rng z107
          have b118 := hq_rng z108
          have b119 := hq_rng z109
          have b120 := hq_rng r102
          refine lv_if_eq (tgt := 101) hx hb dX7_takeCompound_90 (by decide) (fun c121 => ?_) (fun c121 => ?_)
          · have c121 : (r102).toInt = (0 : Int) := hq_eqi.mp c121
            refine lv_iconst (v := -1) hx hb dX7_takeCompound_101 (by decide) ?_
            have hl122 : (-1 : Int32).toInt = -1 := by decide
            have fx123 : V99 (it) = some (.inr (5, [.int (l_k), .int (l_o), .int (y19), .int (l_p), .int (y72), .int (l_ht), .int (l_pa), .int (l_la), .ref (l_f), .ref (l_s)])) := (hq103.2 (it) _ h_it rfl).trans (e22)
            exact jn102 _ _ _ ls (-1) (z105) (z106) (z107) (z108) (z109) hZ hP (fun x9 hx9 hne9 => (hq103.2 x9 _ hx9 rfl).trans ((o23 x9 (hne9)).trans (lf72 x9 hx9 hne9))) ho110 fx123 (by omega) (by omega) (by omega) (by omega) (lv_sub hl [0, 1, 2] rfl)
          · have c121 : ¬ (r102).toInt = (0 : Int) := fun h9 => c121 (hq_eqi.mpr h9)
            refine lv_aload_n hx hb dX7_takeCompound_93 rfl (lv_at hl 1 rfl) ?_
            refine lv_iconst (v := 5) hx hb dX7_takeCompound_94 (by decide) ?_
            have hl139 : (5 : Int32).toInt = 5 := by decide
            refine hp_calli (hp_runV (As := [.int (5)]) (rest := [.ref (it)]) hx hb hml hown hts (t_X7_takeNumber_1 l D cs B G  V99 n hP.1  (t) h_t (5) ho110 h_q_tx h_q_ou h_q_nm (by omega) (by omega) (by omega) ) hZ ho110 cv_X7_141 rfl rfl ⟨Nat.le_of_ble_eq_true rfl, Nat.le_of_ble_eq_true rfl⟩ rfl hl.1 rfl (Nat.le_of_ble_eq_true rfl) dX7_takeCompound_95 ⟨(Nat.le_of_ble_eq_true rfl), (Nat.le_of_ble_eq_true rfl)⟩) hZ (fun r127 V124 n125 _ _ hw126 hZ => ?_)
            obtain ⟨rfl, hq128, ⟨z130, z131, z132, z133, z134, ho135, hi136, hi137, hi138⟩, hr129⟩ := hw126
            have hP := hP.trans hq128 (by intro g h; simp_all)
            have b140 := hq_rng z130
            have b141 := hq_rng z131
            have b142 := hq_rng z132
            have b143 := hq_rng z133
            have b144 := hq_rng z134
            have b145 := hq_rng r127
            refine lv_goto (tgt := 102) hx hb dX7_takeCompound_98 (by decide) ?_
            have fx146 : V124 (it) = some (.inr (5, [.int (l_k), .int (l_o), .int (y19), .int (l_p), .int (y72), .int (l_ht), .int (l_pa), .int (l_la), .ref (l_f), .ref (l_s)])) := (hq128.2 (it) _ h_it rfl).trans ((hq103.2 (it) _ h_it rfl).trans (e22))
            exact jn102 _ _ _ ls (r127) (z130) (z131) (z132) (z133) (z134) hZ hP (fun x9 hx9 hne9 => (hq128.2 x9 _ hx9 rfl).trans ((hq103.2 x9 _ hx9 rfl).trans ((o23 x9 (hne9)).trans (lf72 x9 hx9 hne9)))) ho135 fx146 (by omega) (by omega) (by omega) (by omega) (lv_sub hl [0, 1, 2] rfl)
      refine lv_iload_n hx hb dX7_takeCompound_46 rfl (lv_at hl 0 rfl) ?_
      refine lv_if_eq (tgt := 71) hx hb dX7_takeCompound_47 (by decide) (fun c147 => ?_) (fun c147 => ?_)
      · have c147 : (y44).toInt = (0 : Int) := hq_eqi.mp c147
        refine lv_iconst (v := -1) hx hb dX7_takeCompound_71 (by decide) ?_
        have hl148 : (-1 : Int32).toInt = -1 := by decide
        exact jn72 _ _ _ ls (-1) (fk44) (fp44) (nx44) (tk44) (st44) hZ hP (fun x9 hx9 hne9 => lf44 x9 hx9 hne9) ho10 ho11 (by omega) (by omega) (by omega) (by omega) (lv_sub hl [0, 1, 2] rfl)
      · have c147 : ¬ (y44).toInt = (0 : Int) := fun h9 => c147 (hq_eqi.mpr h9)
        refine lv_aload_n hx hb dX7_takeCompound_50 rfl (lv_at hl 1 rfl) ?_
        refine lv_aload_n hx hb dX7_takeCompound_51 rfl (lv_at hl 1 rfl) ?_
        refine hp_get (v := .ref (q_ou)) hx hb hts hown hZ ho10 fl_X7_30 rfl dX7_takeCompound_52 ?_
        obtain ⟨u150, u151, u152, u153, z154, z155, z156, eV149, hu157, hu158, hu159, hu160, ⟨h161, h162⟩, ⟨h163, h164⟩, h165, h166⟩ := hq_o6 hP.1 h_q_ou
        refine hp_get (v := .ref (u151)) hx hb hts hown hZ eV149 fl_X7_83 rfl dX7_takeCompound_55 ?_
        refine lv_aload_n hx hb dX7_takeCompound_58 rfl (lv_at hl 1 rfl) ?_
        refine hp_get (v := .ref (q_ou)) hx hb hts hown hZ ho10 fl_X7_30 rfl dX7_takeCompound_59 ?_
        refine hp_get (v := .int (z155)) hx hb hts hown hZ eV149 fl_X7_80 rfl dX7_takeCompound_62 ?_
        refine hp_calli (hp_runV (As := [.ref (u151), .int (z155)]) (rest := [.ref (it)]) hx hb hml hown hts (t_X7_takeName_1 l D cs B G  V9 n hP.1 _ (t) h_t (u151) hu158 (z155) ho10 h_q_tx h_q_ou h_q_nm (by omega) (by omega) (by omega) (by omega) (by decide)) hZ ho10 cv_X7_90 rfl rfl ⟨Nat.le_of_ble_eq_true rfl, Nat.le_of_ble_eq_true rfl⟩ rfl hl.1 rfl (Nat.le_of_ble_eq_true rfl) dX7_takeCompound_65 ⟨(Nat.le_of_ble_eq_true rfl), (Nat.le_of_ble_eq_true rfl)⟩) hZ (fun r170 V167 n168 _ _ hw169 hZ => ?_)
        obtain ⟨rfl, hq171, ⟨z173, z174, z175, z176, z177, ho178, hi179, hi180, hi181⟩, hr172⟩ := hw169
        have hP := hP.trans hq171 (by intro g h; simp_all)
        have b182 := hq_rng z173
        have b183 := hq_rng z174
        have b184 := hq_rng z175
        have b185 := hq_rng z176
        have b186 := hq_rng z177
        have b187 := hq_rng r170
        refine lv_goto (tgt := 72) hx hb dX7_takeCompound_68 (by decide) ?_
        have fx188 : V167 (it) = some (.inr (5, [.int (l_k), .int (l_o), .int (y19), .int (l_p), .int (l_h), .int (l_ht), .int (l_pa), .int (l_la), .ref (l_f), .ref (l_s)])) := (hq171.2 (it) _ h_it rfl).trans (ho11)
        exact jn72 _ _ _ ls (r170) (z173) (z174) (z175) (z176) (z177) hZ hP (fun x9 hx9 hne9 => (hq171.2 x9 _ hx9 rfl).trans (lf44 x9 hx9 hne9)) ho178 fx188 (by omega) (by omega) (by omega) (by omega) (lv_sub hl [0, 1, 2] rfl)
    refine lv_aload_n hx hb dX7_takeCompound_22 rfl (lv_at hl 1 rfl) ?_
    refine hp_get (v := .int (y19)) hx hb hts hown hZ e7 fl_X7_145 rfl dX7_takeCompound_23 ?_
    refine lv_iconst (v := -1) hx hb dX7_takeCompound_26 (by decide) ?_
    refine lv_icmp_eq (tgt := 43) hx hb dX7_takeCompound_27 (by decide) (fun c189 => ?_) (fun c189 => ?_)
    · have c189 : (y19).toInt = (-1 : Int) := hq_eqi.mp c189
      refine lv_iconst (v := 0) hx hb dX7_takeCompound_43 (by decide) ?_
      have hl190 : (0 : Int32).toInt = 0 := by decide
      exact jn44 _ _ _ ls (0) (fk19) (fp19) (nx19) (tk19) (st19) hZ hP (fun x9 hx9 hne9 => (o8 x9 (hne9)).trans (lf19 x9 hx9 hne9)) fx9 e7 (by omega) (by omega) (by omega) (lv_sub hl [0, 1] rfl)
    · have c189 : ¬ (y19).toInt = (-1 : Int) := fun h9 => c189 (hq_eqi.mpr h9)
      refine lv_aload_n hx hb dX7_takeCompound_30 rfl (lv_at hl 0 rfl) ?_
      refine lv_bipush (v := 12) hx hb dX7_takeCompound_31 (by decide) ?_
      have hl206 : (12 : Int32).toInt = 12 := by decide
      refine hp_calli (hp_runV (As := [.int (12)]) (rest := []) hx hb hml hown hts (t_X7_take_1 l D cs B G  V6 n hP.1  (t) h_t (12) fx9 h_q_tx h_q_ou h_q_nm (by omega) (by omega) (by omega) (by omega)) hZ fx9 cv_X7_58 rfl rfl ⟨Nat.le_of_ble_eq_true rfl, Nat.le_of_ble_eq_true rfl⟩ rfl hl.1 rfl (Nat.le_of_ble_eq_true rfl) dX7_takeCompound_33 ⟨(Nat.le_of_ble_eq_true rfl), (Nat.le_of_ble_eq_true rfl)⟩) hZ (fun r194 V191 n192 _ _ hw193 hZ => ?_)
      obtain ⟨rfl, hq195, ⟨z197, z198, z199, z200, z201, ho202, hi203, hi204, hi205⟩, hr196⟩ := hw193
      have hP := hP.trans hq195 (by intro g h; simp_all)
      have b207 := hq_rng z197
      have b208 := hq_rng z198
      have b209 := hq_rng z199
      have b210 := hq_rng z200
      have b211 := hq_rng z201
      have b212 := hq_rng r194
      refine lv_if_eq (tgt := 43) hx hb dX7_takeCompound_36 (by decide) (fun c213 => ?_) (fun c213 => ?_)
      · have c213 : (r194).toInt = (0 : Int) := hq_eqi.mp c213
        refine lv_iconst (v := 0) hx hb dX7_takeCompound_43 (by decide) ?_
        have hl214 : (0 : Int32).toInt = 0 := by decide
        have fx215 : V191 (it) = some (.inr (5, [.int (l_k), .int (l_o), .int (y19), .int (l_p), .int (l_h), .int (l_ht), .int (l_pa), .int (l_la), .ref (l_f), .ref (l_s)])) := (hq195.2 (it) _ h_it rfl).trans (e7)
        exact jn44 _ _ _ ls (0) (z197) (z198) (z199) (z200) (z201) hZ hP (fun x9 hx9 hne9 => (hq195.2 x9 _ hx9 rfl).trans ((o8 x9 (hne9)).trans (lf19 x9 hx9 hne9))) ho202 fx215 (by omega) (by omega) (by omega) (lv_sub hl [0, 1] rfl)
      · have c213 : ¬ (r194).toInt = (0 : Int) := fun h9 => c213 (hq_eqi.mpr h9)
        refine lv_iconst (v := 1) hx hb dX7_takeCompound_39 (by decide) ?_
        refine lv_goto (tgt := 44) hx hb dX7_takeCompound_40 (by decide) ?_
        have hl216 : (1 : Int32).toInt = 1 := by decide
        have fx217 : V191 (it) = some (.inr (5, [.int (l_k), .int (l_o), .int (y19), .int (l_p), .int (l_h), .int (l_ht), .int (l_pa), .int (l_la), .ref (l_f), .ref (l_s)])) := (hq195.2 (it) _ h_it rfl).trans (e7)
        exact jn44 _ _ _ ls (1) (z197) (z198) (z199) (z200) (z201) hZ hP (fun x9 hx9 hne9 => (hq195.2 x9 _ hx9 rfl).trans ((o8 x9 (hne9)).trans (lf19 x9 hx9 hne9))) ho202 fx217 (by omega) (by omega) (by omega) (lv_sub hl [0, 1] rfl)
  refine lv_aload_n hx hb dX7_takeCompound_1 rfl (lv_at hl 0 rfl) ?_
  refine lv_bipush (v := 11) hx hb dX7_takeCompound_2 (by decide) ?_
  have hl233 : (11 : Int32).toInt = 11 := by decide
  refine hp_calli (hp_runV (As := [.int (11)]) (rest := [.ref (it)]) hx hb hml hown hts (t_X7_take_1 l D cs B G  V n hP.1  (t) h_t (11) ho_t h_q_tx h_q_ou h_q_nm (by omega) (by omega) (by omega) (by omega)) hZ ho_t cv_X7_58 rfl rfl ⟨Nat.le_of_ble_eq_true rfl, Nat.le_of_ble_eq_true rfl⟩ rfl hl.1 rfl (Nat.le_of_ble_eq_true rfl) dX7_takeCompound_4 ⟨(Nat.le_of_ble_eq_true rfl), (Nat.le_of_ble_eq_true rfl)⟩) hZ (fun r221 V218 n219 _ _ hw220 hZ => ?_)
  obtain ⟨rfl, hq222, ⟨z224, z225, z226, z227, z228, ho229, hi230, hi231, hi232⟩, hr223⟩ := hw220
  have hP := hP.trans hq222 (by intro g h; simp_all)
  have b234 := hq_rng z224
  have b235 := hq_rng z225
  have b236 := hq_rng z226
  have b237 := hq_rng z227
  have b238 := hq_rng z228
  have b239 := hq_rng r221
  refine lv_if_eq (tgt := 18) hx hb dX7_takeCompound_7 (by decide) (fun c240 => ?_) (fun c240 => ?_)
  · have c240 : (r221).toInt = (0 : Int) := hq_eqi.mp c240
    refine lv_iconst (v := -1) hx hb dX7_takeCompound_18 (by decide) ?_
    have hl241 : (-1 : Int32).toInt = -1 := by decide
    have fx242 : V218 (it) = some (.inr (5, [.int (l_k), .int (l_o), .int (l_t), .int (l_p), .int (l_h), .int (l_ht), .int (l_pa), .int (l_la), .ref (l_f), .ref (l_s)])) := (hq222.2 (it) _ h_it rfl).trans (ho_it)
    exact jn19 _ _ _ ls (-1) (z224) (z225) (z226) (z227) (z228) hZ hP (fun x9 hx9 hne9 => hq222.2 x9 _ hx9 rfl) ho229 fx242 (by omega) (by omega) (by omega) (lv_sub hl [0, 1] rfl)
  · have c240 : ¬ (r221).toInt = (0 : Int) := fun h9 => c240 (hq_eqi.mpr h9)
    refine lv_aload_n hx hb dX7_takeCompound_10 rfl (lv_at hl 0 rfl) ?_
    refine lv_iconst (v := 5) hx hb dX7_takeCompound_11 (by decide) ?_
    have hl258 : (5 : Int32).toInt = 5 := by decide
    refine hp_calli (hp_runV (As := [.int (5)]) (rest := [.ref (it)]) hx hb hml hown hts (t_X7_takeNumber_1 l D cs B G  V218 n hP.1  (t) h_t (5) ho229 h_q_tx h_q_ou h_q_nm (by omega) (by omega) (by omega) ) hZ ho229 cv_X7_141 rfl rfl ⟨Nat.le_of_ble_eq_true rfl, Nat.le_of_ble_eq_true rfl⟩ rfl hl.1 rfl (Nat.le_of_ble_eq_true rfl) dX7_takeCompound_12 ⟨(Nat.le_of_ble_eq_true rfl), (Nat.le_of_ble_eq_true rfl)⟩) hZ (fun r246 V243 n244 _ _ hw245 hZ => ?_)
    obtain ⟨rfl, hq247, ⟨z249, z250, z251, z252, z253, ho254, hi255, hi256, hi257⟩, hr248⟩ := hw245
    have hP := hP.trans hq247 (by intro g h; simp_all)
    have b259 := hq_rng z249
    have b260 := hq_rng z250
    have b261 := hq_rng z251
    have b262 := hq_rng z252
    have b263 := hq_rng z253
    have b264 := hq_rng r246
    refine lv_goto (tgt := 19) hx hb dX7_takeCompound_15 (by decide) ?_
    have fx265 : V243 (it) = some (.inr (5, [.int (l_k), .int (l_o), .int (l_t), .int (l_p), .int (l_h), .int (l_ht), .int (l_pa), .int (l_la), .ref (l_f), .ref (l_s)])) := (hq247.2 (it) _ h_it rfl).trans ((hq222.2 (it) _ h_it rfl).trans (ho_it))
    exact jn19 _ _ _ ls (r246) (z249) (z250) (z251) (z252) (z253) hZ hP (fun x9 hx9 hne9 => (hq247.2 x9 _ hx9 rfl).trans (hq222.2 x9 _ hx9 rfl)) ho254 fx265 (by omega) (by omega) (by omega) (lv_sub hl [0, 1] rfl)

set_option maxHeartbeats 4000000 in
set_option maxRecDepth 100000 in
theorem t_X7_takeClass_1 (l : Launch) (D : va_G) (cs : Nat → ClassId) (B : Nat) (G : hq_G) (V : hp_V) (n : Nat) (hI : hq_I cs G V) (t : Nat) (h_t : G t = some (10, 0, 0, 0)) {q_tx q_ou q_nm : Nat} {q_fk q_fp q_nx q_tk q_st : Int32} (ho_t : V t = some (.inr (7, [.int (q_fk), .int (q_fp), .ref (q_tx), .ref (q_ou), .int (q_nx), .int (q_tk), .int (q_st), .ref (q_nm)]))) (h_q_tx : G q_tx = some (0, 4000, 0, 0)) (h_q_ou : G q_ou = some (6, 1, 0, 0)) (h_q_nm : G q_nm = some (0, 12, 0, 0)) (hi_t0 : 0 ≤ q_nx.toInt ∧ q_nx.toInt ≤ 4002) (hi_t1 : 0 ≤ q_st.toInt ∧ q_st.toInt ≤ 4001) (hi_t2 : q_nx.toInt ≤ 4001 ∨ q_tk.toInt = 21) {b_cn b_vn b_vc b_ln : Nat} {b_cs b_vs b_ls : Int32} (ho_q_ou : V q_ou = some (.inr (0, [.ref (b_cn), .int (b_cs), .ref (b_vn), .ref (b_vc), .int (b_vs), .ref (b_ln), .int (b_ls)]))) (h_b_cn : G b_cn = some (4, 7, 6, 0)) (h_b_vn : G b_vn = some (4, 7, 30, 0)) (h_b_vc : G b_vc = some (2, 3, 30, 0)) (h_b_ln : G b_ln = some (4, 6, 60, 1)) (hi_q_ou0 : 0 ≤ b_cs.toInt ∧ b_cs.toInt ≤ 6) (hi_q_ou1 : 0 ≤ b_vs.toInt ∧ b_vs.toInt ≤ 30) (hi_q_ou2 : 0 ≤ b_ls.toInt ∧ b_ls.toInt ≤ 60) (hc : q_tk.toInt = 6) : hp_M l yX7_takeClass cX7_takeClass 1 (some .boolean) ({ frames := 7, cells := 0, slots := 0, locals := 152 }) D cs B V n [.ref (t)] (hp_QI D cs B (fun r V' n' => n = n' ∧ hq_P cs G (fun g => g.1 == 3 || g.1 == 4 || (g.1 == 21 && g.2 == 1)) V V' ∧ (∃ (q_fk1 : Int32) (q_fp1 : Int32) (q_nx1 : Int32) (q_tk1 : Int32) (q_st1 : Int32), V' t = some (.inr (7, [.int (q_fk1), .int (q_fp1), .ref (q_tx), .ref (q_ou), .int (q_nx1), .int (q_tk1), .int (q_st1), .ref (q_nm)])) ∧ (0 ≤ q_nx1.toInt ∧ q_nx1.toInt ≤ 4002) ∧ (0 ≤ q_st1.toInt ∧ q_st1.toInt ≤ 4001) ∧ (q_nx1.toInt ≤ 4001 ∨ q_tk1.toInt = 21)) ∧ (∃ (b_cs1 : Int32), V' q_ou = some (.inr (0, [.ref (b_cn), .int (b_cs1), .ref (b_vn), .ref (b_vc), .int (b_vs), .ref (b_ln), .int (b_ls)])) ∧ (0 ≤ b_cs1.toInt ∧ b_cs1.toInt ≤ 6)) ∧ ((0 ≤ r.toInt ∧ r.toInt ≤ 1) ∧ hq_JJ cs V V' q_ou r))) 0 0 := by
  refine hp_walk (R0 := RX7) (by decide) rfl ?_ (Nat.le_of_ble_eq_true rfl)
  intro p e s m below meth c ls hx hb hr hts hown hlocks hin hml hZ hl
  have hP : hq_P cs G (fun g => g.1 == 3 || g.1 == 4 || (g.1 == 21 && g.2 == 1)) V V := hq_P.rf hI
  have hl : lv_has ls 1 [(0, .ref (t))] := hl
  have hb_q_fk := hq_rng q_fk
  have hb_q_fp := hq_rng q_fp
  have hb_q_nx := hq_rng q_nx
  have hb_q_tk := hq_rng q_tk
  have hb_q_st := hq_rng q_st
  have hb_b_cs := hq_rng b_cs
  have hb_b_vs := hq_rng b_vs
  have hb_b_ls := hq_rng b_ls
  refine lv_aload_n hx hb dX7_takeClass_0 rfl (lv_at hl 0 rfl) ?_
  refine hp_get (v := .ref (q_ou)) hx hb hts hown hZ ho_t fl_X7_30 rfl dX7_takeClass_1 ?_
  refine hp_get (v := .int (b_cs)) hx hb hts hown hZ ho_q_ou fl_X7_62 rfl dX7_takeClass_4 ?_
  refine lv_bipush (v := 6) hx hb dX7_takeClass_7 (by decide) ?_
  refine lv_icmp_lt (tgt := 18) hx hb dX7_takeClass_9 (by decide) (fun c1 => ?_) (fun c1 => ?_)
  · have c1 : (b_cs).toInt < (6 : Int) := hq_lti.mp c1
    refine lv_aload_n hx hb dX7_takeClass_18 rfl (lv_at hl 0 rfl) ?_
    refine hp_callv (hp_runV (As := []) (rest := []) hx hb hml hown hts (t_X7_step_1 l D cs B G  V n hP.1  (t) h_t ho_t h_q_tx h_q_ou h_q_nm (by omega) (by omega)) hZ ho_t cv_X7_42 rfl rfl ⟨Nat.le_of_ble_eq_true rfl, Nat.le_of_ble_eq_true rfl⟩ rfl hl.1 rfl (Nat.le_of_ble_eq_true rfl) dX7_takeClass_19 ⟨(Nat.le_of_ble_eq_true rfl), (Nat.le_of_ble_eq_true rfl)⟩) hZ (fun V2 n3 _ _ hw4 hZ => ?_)
    obtain ⟨rfl, hq6, ⟨z8, z9, z10, ho11, hi12⟩⟩ := hw4
    have hP := hP.trans hq6 (by intro g h; simp_all)
    have b13 := hq_rng z8
    have b14 := hq_rng z9
    have b15 := hq_rng z10
    refine lv_aload_n hx hb dX7_takeClass_22 rfl (lv_at hl 0 rfl) ?_
    refine lv_aload_n hx hb dX7_takeClass_23 rfl (lv_at hl 0 rfl) ?_
    refine hp_get (v := .ref (q_ou)) hx hb hts hown hZ ho11 fl_X7_30 rfl dX7_takeClass_24 ?_
    have fx16 : V2 (q_ou) = some (.inr (0, [.ref (b_cn), .int (b_cs), .ref (b_vn), .ref (b_vc), .int (b_vs), .ref (b_ln), .int (b_ls)])) := (hq6.2 (q_ou) _ h_q_ou rfl).trans (ho_q_ou)
    refine hp_get (v := .ref (b_cn)) hx hb hts hown hZ fx16 fl_X7_68 rfl dX7_takeClass_27 ?_
    refine lv_aload_n hx hb dX7_takeClass_30 rfl (lv_at hl 0 rfl) ?_
    refine hp_get (v := .ref (q_ou)) hx hb hts hown hZ ho11 fl_X7_30 rfl dX7_takeClass_31 ?_
    refine hp_get (v := .int (b_cs)) hx hb hts hown hZ fx16 fl_X7_62 rfl dX7_takeClass_34 ?_
    refine hp_calli (hp_runV (As := [.ref (b_cn), .int (b_cs)]) (rest := []) hx hb hml hown hts (t_X7_isNewName_1 l D cs B G  V2 n hP.1 _ (t) h_t (b_cn) h_b_cn (b_cs) ho11 h_q_tx h_q_ou h_q_nm (by omega) (by omega) (by omega) (by omega)) hZ ho11 cv_X7_72 rfl rfl ⟨Nat.le_of_ble_eq_true rfl, Nat.le_of_ble_eq_true rfl⟩ rfl hl.1 rfl (Nat.le_of_ble_eq_true rfl) dX7_takeClass_37 ⟨(Nat.le_of_ble_eq_true rfl), (Nat.le_of_ble_eq_true rfl)⟩) hZ (fun r20 V17 n18 _ _ hw19 hZ => ?_)
    obtain ⟨rfl, hq21, ⟨z23, z24, ho25⟩, hr22⟩ := hw19
    have hP := hP.trans hq21 (by intro g h; simp_all)
    have b26 := hq_rng z23
    have b27 := hq_rng z24
    have b28 := hq_rng r20
    refine lv_if_ne (tgt := 45) hx hb dX7_takeClass_40 (by decide) (fun c29 => ?_) (fun c29 => ?_)
    · have c29 : ¬ (r20).toInt = (0 : Int) := fun h9 => c29 (hq_eqi.mpr h9)
      refine lv_aload_n hx hb dX7_takeClass_45 rfl (lv_at hl 0 rfl) ?_
      refine hp_get (v := .ref (q_ou)) hx hb hts hown hZ ho25 fl_X7_30 rfl dX7_takeClass_46 ?_
      have fx30 : V17 (q_ou) = some (.inr (0, [.ref (b_cn), .int (b_cs), .ref (b_vn), .ref (b_vc), .int (b_vs), .ref (b_ln), .int (b_ls)])) := (hq21.2 (q_ou) _ h_q_ou rfl).trans (fx16)
      refine hp_get (v := .ref (b_cn)) hx hb hts hown hZ fx30 fl_X7_68 rfl dX7_takeClass_49 ?_
      refine lv_aload_n hx hb dX7_takeClass_52 rfl (lv_at hl 0 rfl) ?_
      refine hp_get (v := .ref (q_ou)) hx hb hts hown hZ ho25 fl_X7_30 rfl dX7_takeClass_53 ?_
      refine hp_get (v := .int (b_cs)) hx hb hts hown hZ fx30 fl_X7_62 rfl dX7_takeClass_56 ?_
      obtain ⟨hN33, g32, eV31, hf34, _⟩ := hq_o4 hP.1 h_b_cn
      obtain ⟨u35, hx36, hu37⟩ := hf34 (b_cs : Int32).toNatClampNeg (hq_ix (by omega) (by omega))
      have hu37 : G u35 = some (0, 12, 0, 0) := hu37
      refine hp_aald (v := .ref (u35)) hx hb hZ 7 eV31 rfl (hq_in (by omega) (by omega)) (by rw [hx36]; rfl) dX7_takeClass_59 ?_
      refine lv_aload_n hx hb dX7_takeClass_60 rfl (lv_at hl 0 rfl) ?_
      refine hp_get (v := .ref (q_nm)) hx hb hts hown hZ ho25 fl_X7_23 rfl dX7_takeClass_61 ?_
      obtain ⟨u45, z46, eV44, hu47, h48, h49, h50⟩ := hq_o0 hP.1 hu37
      refine hp_callv (hp_runV (As := [.ref (q_nm)]) (rest := []) hx hb hml hown hts (t_X9_set l D cs B G (fun g => g.1 == 3) V17 n hP.1 _ _ (u35) hu37 (q_nm) h_q_nm rfl rfl) hZ eV44 cv_X7_76 rfl rfl ⟨Nat.le_of_ble_eq_true rfl, Nat.le_of_ble_eq_true rfl⟩ rfl hl.1 rfl (Nat.le_of_ble_eq_true rfl) dX7_takeClass_64 ⟨(Nat.le_of_ble_eq_true rfl), (Nat.le_of_ble_eq_true rfl)⟩) hZ (fun V38 n39 _ _ hw40 hZ => ?_)
      obtain ⟨rfl, hq42⟩ := hw40
      have hP := hP.trans hq42 (by intro g h; simp_all)
      refine lv_aload_n hx hb dX7_takeClass_67 rfl (lv_at hl 0 rfl) ?_
      have fx51 : V38 (t) = some (.inr (7, [.int (z23), .int (z24), .ref (q_tx), .ref (q_ou), .int (z8), .int (z9), .int (z10), .ref (q_nm)])) := (hq42.2 (t) _ h_t rfl).trans (ho25)
      refine hp_get (v := .ref (q_ou)) hx hb hts hown hZ fx51 fl_X7_30 rfl dX7_takeClass_68 ?_
      refine lv_dup hx hb dX7_takeClass_71 rfl ?_
      have fx52 : V38 (q_ou) = some (.inr (0, [.ref (b_cn), .int (b_cs), .ref (b_vn), .ref (b_vc), .int (b_vs), .ref (b_ln), .int (b_ls)])) := (hq42.2 (q_ou) _ h_q_ou rfl).trans (fx30)
      refine hp_get (v := .int (b_cs)) hx hb hts hown hZ fx52 fl_X7_62 rfl dX7_takeClass_72 ?_
      refine lv_iconst (v := 1) hx hb dX7_takeClass_75 (by decide) ?_
      refine lv_iadd hx hb dX7_takeClass_76 ?_
      refine lv_topi (fun y53 ey54 => ?_)
      obtain ⟨k55, hk56, b57, b58⟩ := hq_add (b_cs) (1)
      rw [← ey54] at hk56 b57 b58
      have hk56 : (y53).toInt = (b_cs).toInt + (1 : Int) + k55 * 4294967296 := hk56
      refine hp_put hx hb hts hown hZ fx52 fp_X7_62 rfl rfl (Nat.le_of_ble_eq_true rfl) dX7_takeClass_77 (fun V59 _ _ e60 o61 hZ => ?_)
      have e60 : V59 (q_ou) = some (.inr (0, [.ref (b_cn), .int (y53), .ref (b_vn), .ref (b_vc), .int (b_vs), .ref (b_ln), .int (b_ls)])) := e60
      have hP := hP.put h_q_ou e60 o61 (hq_c6 h_b_cn h_b_vn h_b_vc h_b_ln (show 0 ≤ (y53).toInt ∧ (y53).toInt ≤ 6 by omega) (show 0 ≤ (b_vs).toInt ∧ (b_vs).toInt ≤ 30 by omega) (show 0 ≤ (b_ls).toInt ∧ (b_ls).toInt ≤ 60 by omega)) rfl
      refine lv_aload_n hx hb dX7_takeClass_80 rfl (lv_at hl 0 rfl) ?_
      have fx68 : V59 (t) = some (.inr (7, [.int (z23), .int (z24), .ref (q_tx), .ref (q_ou), .int (z8), .int (z9), .int (z10), .ref (q_nm)])) := (o61 (t) (hq_tne h_t h_q_ou (by simp))).trans (fx51)
      refine hp_callv (hp_runV (As := []) (rest := []) hx hb hml hown hts (t_X7_step_1 l D cs B G  V59 n hP.1  (t) h_t fx68 h_q_tx h_q_ou h_q_nm (by omega) (by omega)) hZ fx68 cv_X7_42 rfl rfl ⟨Nat.le_of_ble_eq_true rfl, Nat.le_of_ble_eq_true rfl⟩ rfl hl.1 rfl (Nat.le_of_ble_eq_true rfl) dX7_takeClass_81 ⟨(Nat.le_of_ble_eq_true rfl), (Nat.le_of_ble_eq_true rfl)⟩) hZ (fun V62 n63 _ _ hw64 hZ => ?_)
      obtain ⟨rfl, hq66, ⟨z69, z70, z71, ho72, hi73⟩⟩ := hw64
      have hP := hP.trans hq66 (by intro g h; simp_all)
      have b74 := hq_rng z69
      have b75 := hq_rng z70
      have b76 := hq_rng z71
      refine lv_iconst (v := 1) hx hb dX7_takeClass_84 (by decide) ?_
      have fx77 : V62 (q_ou) = some (.inr (0, [.ref (b_cn), .int (y53), .ref (b_vn), .ref (b_vc), .int (b_vs), .ref (b_ln), .int (b_ls)])) := (hq66.2 (q_ou) _ h_q_ou rfl).trans (e60)
      exact hp_zret hx hb hr rfl hlocks hZ ⟨rfl, hP, ⟨z23, z24, z69, z70, z71, ho72, by omega, by omega, by omega⟩, ⟨y53, fx77, by omega⟩, ⟨(by decide), fun _ hJ => hq_J.same hP.1 h_q_ou hJ ho_q_ou fx77 (fun x t hx hg => hP.2 x t hx (by rcases hg with hg | hg <;> simp [hg]))⟩⟩ dX7_takeClass_85
    · have c29 : (r20).toInt = (0 : Int) := hq_eqi.mp c29
      refine lv_iconst (v := 0) hx hb dX7_takeClass_43 (by decide) ?_
      have fx78 : V17 (q_ou) = some (.inr (0, [.ref (b_cn), .int (b_cs), .ref (b_vn), .ref (b_vc), .int (b_vs), .ref (b_ln), .int (b_ls)])) := (hq21.2 (q_ou) _ h_q_ou rfl).trans (fx16)
      exact hp_zret hx hb hr rfl hlocks hZ ⟨rfl, hP, ⟨z23, z24, z8, z9, z10, ho25, by omega, by omega, by omega⟩, ⟨b_cs, fx78, by omega⟩, ⟨(by decide), fun h9 => absurd h9 (by decide)⟩⟩ dX7_takeClass_44
  · have c1 : ¬ (b_cs).toInt < (6 : Int) := fun h9 => c1 (hq_lti.mpr h9)
    refine lv_aload_n hx hb dX7_takeClass_12 rfl (lv_at hl 0 rfl) ?_
    refine lv_iconst (v := 4) hx hb dX7_takeClass_13 (by decide) ?_
    have hl88 : (4 : Int32).toInt = 4 := by decide
    refine hp_calli (hp_runV (As := [.int (4)]) (rest := []) hx hb hml hown hts (t_X7_refuse_1 l D cs B G  V n hP.1  (t) h_t (4) ho_t h_q_tx h_q_ou h_q_nm ) hZ ho_t cv_X7_65 rfl rfl ⟨Nat.le_of_ble_eq_true rfl, Nat.le_of_ble_eq_true rfl⟩ rfl hl.1 rfl (Nat.le_of_ble_eq_true rfl) dX7_takeClass_14 ⟨(Nat.le_of_ble_eq_true rfl), (Nat.le_of_ble_eq_true rfl)⟩) hZ (fun r82 V79 n80 _ _ hw81 hZ => ?_)
    obtain ⟨rfl, hq83, ⟨z85, z86, ho87⟩, hr84⟩ := hw81
    have hP := hP.trans hq83 (by intro g h; simp_all)
    have b89 := hq_rng z85
    have b90 := hq_rng z86
    have b91 := hq_rng r82
    have fx92 : V79 (q_ou) = some (.inr (0, [.ref (b_cn), .int (b_cs), .ref (b_vn), .ref (b_vc), .int (b_vs), .ref (b_ln), .int (b_ls)])) := (hq83.2 (q_ou) _ h_q_ou rfl).trans (ho_q_ou)
    exact hp_zret hx hb hr (hq_nzi (by omega) (by omega)) hlocks hZ ⟨rfl, hP, ⟨z85, z86, q_nx, q_tk, q_st, ho87, by omega, by omega, by omega⟩, ⟨b_cs, fx92, by omega⟩, ⟨(by omega), fun h9 => absurd h9 (by omega)⟩⟩ dX7_takeClass_17

set_option maxHeartbeats 4000000 in
set_option maxRecDepth 100000 in
theorem t_X7_takeVerb_1 (l : Launch) (D : va_G) (cs : Nat → ClassId) (B : Nat) (G : hq_G) (V : hp_V) (n : Nat) (hI : hq_I cs G V) (t : Nat) (h_t : G t = some (10, 0, 0, 0)) {q_tx q_ou q_nm : Nat} {q_fk q_fp q_nx q_tk q_st : Int32} (ho_t : V t = some (.inr (7, [.int (q_fk), .int (q_fp), .ref (q_tx), .ref (q_ou), .int (q_nx), .int (q_tk), .int (q_st), .ref (q_nm)]))) (h_q_tx : G q_tx = some (0, 4000, 0, 0)) (h_q_ou : G q_ou = some (6, 1, 0, 0)) (h_q_nm : G q_nm = some (0, 12, 0, 0)) (hi_t0 : 0 ≤ q_nx.toInt ∧ q_nx.toInt ≤ 4002) (hi_t1 : 0 ≤ q_st.toInt ∧ q_st.toInt ≤ 4001) (hi_t2 : q_nx.toInt ≤ 4001 ∨ q_tk.toInt = 21) {b_cn b_vn b_vc b_ln : Nat} {b_cs b_vs b_ls : Int32} (ho_q_ou : V q_ou = some (.inr (0, [.ref (b_cn), .int (b_cs), .ref (b_vn), .ref (b_vc), .int (b_vs), .ref (b_ln), .int (b_ls)]))) (h_b_cn : G b_cn = some (4, 7, 6, 0)) (h_b_vn : G b_vn = some (4, 7, 30, 0)) (h_b_vc : G b_vc = some (2, 3, 30, 0)) (h_b_ln : G b_ln = some (4, 6, 60, 1)) (hi_q_ou0 : 0 ≤ b_cs.toInt ∧ b_cs.toInt ≤ 6) (hi_q_ou1 : 0 ≤ b_vs.toInt ∧ b_vs.toInt ≤ 30) (hi_q_ou2 : 0 ≤ b_ls.toInt ∧ b_ls.toInt ≤ 60) (hc : q_tk.toInt = 7) : hp_M l yX7_takeVerb cX7_takeVerb 2 (some .boolean) ({ frames := 8, cells := 0, slots := 0, locals := 175 }) D cs B V n [.ref (t)] (hp_QI D cs B (fun r V' n' => n = n' ∧ hq_P cs G (fun g => g.1 == 3 || g.1 == 4 || (g.1 == 21 && g.2 == 1)) V V' ∧ (∃ (q_fk1 : Int32) (q_fp1 : Int32) (q_nx1 : Int32) (q_tk1 : Int32) (q_st1 : Int32), V' t = some (.inr (7, [.int (q_fk1), .int (q_fp1), .ref (q_tx), .ref (q_ou), .int (q_nx1), .int (q_tk1), .int (q_st1), .ref (q_nm)])) ∧ (0 ≤ q_nx1.toInt ∧ q_nx1.toInt ≤ 4002) ∧ (0 ≤ q_st1.toInt ∧ q_st1.toInt ≤ 4001) ∧ (q_nx1.toInt ≤ 4001 ∨ q_tk1.toInt = 21)) ∧ (∃ (b_vs1 : Int32), V' q_ou = some (.inr (0, [.ref (b_cn), .int (b_cs), .ref (b_vn), .ref (b_vc), .int (b_vs1), .ref (b_ln), .int (b_ls)])) ∧ (0 ≤ b_vs1.toInt ∧ b_vs1.toInt ≤ 30)) ∧ ((0 ≤ r.toInt ∧ r.toInt ≤ 1) ∧ hq_JJ cs V V' q_ou r))) 0 0 := by
  refine hp_walk (R0 := RX7) (by decide) rfl ?_ (Nat.le_of_ble_eq_true rfl)
  intro p e s m below meth c ls hx hb hr hts hown hlocks hin hml hZ hl
  have hP : hq_P cs G (fun g => g.1 == 3 || g.1 == 4 || (g.1 == 21 && g.2 == 1)) V V := hq_P.rf hI
  have hl : lv_has ls 2 [(0, .ref (t))] := hl
  have hb_q_fk := hq_rng q_fk
  have hb_q_fp := hq_rng q_fp
  have hb_q_nx := hq_rng q_nx
  have hb_q_tk := hq_rng q_tk
  have hb_q_st := hq_rng q_st
  have hb_b_cs := hq_rng b_cs
  have hb_b_vs := hq_rng b_vs
  have hb_b_ls := hq_rng b_ls
  refine lv_aload_n hx hb dX7_takeVerb_0 rfl (lv_at hl 0 rfl) ?_
  refine hp_get (v := .ref (q_ou)) hx hb hts hown hZ ho_t fl_X7_30 rfl dX7_takeVerb_1 ?_
  refine hp_get (v := .int (b_vs)) hx hb hts hown hZ ho_q_ou fl_X7_80 rfl dX7_takeVerb_4 ?_
  refine lv_istore_n (lv' := [(1, .int (b_vs)), (0, .ref (t))]) hx hb dX7_takeVerb_7 rfl hl (by decide) rfl (fun ls hl => ?_)
  refine lv_iload_n hx hb dX7_takeVerb_8 rfl (lv_at hl 0 rfl) ?_
  refine lv_bipush (v := 30) hx hb dX7_takeVerb_9 (by decide) ?_
  refine lv_icmp_lt (tgt := 20) hx hb dX7_takeVerb_11 (by decide) (fun c1 => ?_) (fun c1 => ?_)
  · have c1 : (b_vs).toInt < (30 : Int) := hq_lti.mp c1
    refine lv_aload_n hx hb dX7_takeVerb_20 rfl (lv_at hl 1 rfl) ?_
    refine hp_callv (hp_runV (As := []) (rest := []) hx hb hml hown hts (t_X7_step_1 l D cs B G  V n hP.1  (t) h_t ho_t h_q_tx h_q_ou h_q_nm (by omega) (by omega)) hZ ho_t cv_X7_42 rfl rfl ⟨Nat.le_of_ble_eq_true rfl, Nat.le_of_ble_eq_true rfl⟩ rfl hl.1 rfl (Nat.le_of_ble_eq_true rfl) dX7_takeVerb_21 ⟨(Nat.le_of_ble_eq_true rfl), (Nat.le_of_ble_eq_true rfl)⟩) hZ (fun V2 n3 _ _ hw4 hZ => ?_)
    obtain ⟨rfl, hq6, ⟨z8, z9, z10, ho11, hi12⟩⟩ := hw4
    have hP := hP.trans hq6 (by intro g h; simp_all)
    have b13 := hq_rng z8
    have b14 := hq_rng z9
    have b15 := hq_rng z10
    refine lv_aload_n hx hb dX7_takeVerb_24 rfl (lv_at hl 1 rfl) ?_
    refine lv_aload_n hx hb dX7_takeVerb_25 rfl (lv_at hl 1 rfl) ?_
    refine hp_get (v := .ref (q_ou)) hx hb hts hown hZ ho11 fl_X7_30 rfl dX7_takeVerb_26 ?_
    have fx16 : V2 (q_ou) = some (.inr (0, [.ref (b_cn), .int (b_cs), .ref (b_vn), .ref (b_vc), .int (b_vs), .ref (b_ln), .int (b_ls)])) := (hq6.2 (q_ou) _ h_q_ou rfl).trans (ho_q_ou)
    refine hp_get (v := .ref (b_vn)) hx hb hts hown hZ fx16 fl_X7_83 rfl dX7_takeVerb_29 ?_
    refine lv_iload_n hx hb dX7_takeVerb_32 rfl (lv_at hl 0 rfl) ?_
    refine hp_calli (hp_runV (As := [.ref (b_vn), .int (b_vs)]) (rest := []) hx hb hml hown hts (t_X7_isNewName_1 l D cs B G  V2 n hP.1 _ (t) h_t (b_vn) h_b_vn (b_vs) ho11 h_q_tx h_q_ou h_q_nm (by omega) (by omega) (by omega) (by omega)) hZ ho11 cv_X7_72 rfl rfl ⟨Nat.le_of_ble_eq_true rfl, Nat.le_of_ble_eq_true rfl⟩ rfl hl.1 rfl (Nat.le_of_ble_eq_true rfl) dX7_takeVerb_33 ⟨(Nat.le_of_ble_eq_true rfl), (Nat.le_of_ble_eq_true rfl)⟩) hZ (fun r20 V17 n18 _ _ hw19 hZ => ?_)
    obtain ⟨rfl, hq21, ⟨z23, z24, ho25⟩, hr22⟩ := hw19
    have hP := hP.trans hq21 (by intro g h; simp_all)
    have b26 := hq_rng z23
    have b27 := hq_rng z24
    have b28 := hq_rng r20
    refine lv_if_ne (tgt := 41) hx hb dX7_takeVerb_36 (by decide) (fun c29 => ?_) (fun c29 => ?_)
    · have c29 : ¬ (r20).toInt = (0 : Int) := fun h9 => c29 (hq_eqi.mpr h9)
      refine lv_aload_n hx hb dX7_takeVerb_41 rfl (lv_at hl 1 rfl) ?_
      refine hp_get (v := .ref (q_ou)) hx hb hts hown hZ ho25 fl_X7_30 rfl dX7_takeVerb_42 ?_
      have fx30 : V17 (q_ou) = some (.inr (0, [.ref (b_cn), .int (b_cs), .ref (b_vn), .ref (b_vc), .int (b_vs), .ref (b_ln), .int (b_ls)])) := (hq21.2 (q_ou) _ h_q_ou rfl).trans (fx16)
      refine hp_get (v := .ref (b_vn)) hx hb hts hown hZ fx30 fl_X7_83 rfl dX7_takeVerb_45 ?_
      refine lv_iload_n hx hb dX7_takeVerb_48 rfl (lv_at hl 0 rfl) ?_
      obtain ⟨hN33, g32, eV31, hf34, _⟩ := hq_o4 hP.1 h_b_vn
      obtain ⟨u35, hx36, hu37⟩ := hf34 (b_vs : Int32).toNatClampNeg (hq_ix (by omega) (by omega))
      have hu37 : G u35 = some (0, 12, 0, 0) := hu37
      refine hp_aald (v := .ref (u35)) hx hb hZ 7 eV31 rfl (hq_in (by omega) (by omega)) (by rw [hx36]; rfl) dX7_takeVerb_49 ?_
      refine lv_aload_n hx hb dX7_takeVerb_50 rfl (lv_at hl 1 rfl) ?_
      refine hp_get (v := .ref (q_nm)) hx hb hts hown hZ ho25 fl_X7_23 rfl dX7_takeVerb_51 ?_
      obtain ⟨u45, z46, eV44, hu47, h48, h49, h50⟩ := hq_o0 hP.1 hu37
      refine hp_callv (hp_runV (As := [.ref (q_nm)]) (rest := []) hx hb hml hown hts (t_X9_set l D cs B G (fun g => g.1 == 3) V17 n hP.1 _ _ (u35) hu37 (q_nm) h_q_nm rfl rfl) hZ eV44 cv_X7_76 rfl rfl ⟨Nat.le_of_ble_eq_true rfl, Nat.le_of_ble_eq_true rfl⟩ rfl hl.1 rfl (Nat.le_of_ble_eq_true rfl) dX7_takeVerb_54 ⟨(Nat.le_of_ble_eq_true rfl), (Nat.le_of_ble_eq_true rfl)⟩) hZ (fun V38 n39 _ _ hw40 hZ => ?_)
      obtain ⟨rfl, hq42⟩ := hw40
      have hP := hP.trans hq42 (by intro g h; simp_all)
      refine lv_aload_n hx hb dX7_takeVerb_57 rfl (lv_at hl 1 rfl) ?_
      have fx57 : V38 (t) = some (.inr (7, [.int (z23), .int (z24), .ref (q_tx), .ref (q_ou), .int (z8), .int (z9), .int (z10), .ref (q_nm)])) := (hq42.2 (t) _ h_t rfl).trans (ho25)
      refine hp_callv (hp_runV (As := []) (rest := []) hx hb hml hown hts (t_X7_step_1 l D cs B G  V38 n hP.1  (t) h_t fx57 h_q_tx h_q_ou h_q_nm (by omega) (by omega)) hZ fx57 cv_X7_42 rfl rfl ⟨Nat.le_of_ble_eq_true rfl, Nat.le_of_ble_eq_true rfl⟩ rfl hl.1 rfl (Nat.le_of_ble_eq_true rfl) dX7_takeVerb_58 ⟨(Nat.le_of_ble_eq_true rfl), (Nat.le_of_ble_eq_true rfl)⟩) hZ (fun V51 n52 _ _ hw53 hZ => ?_)
      obtain ⟨rfl, hq55, ⟨z58, z59, z60, ho61, hi62⟩⟩ := hw53
      have hP := hP.trans hq55 (by intro g h; simp_all)
      have b63 := hq_rng z58
      have b64 := hq_rng z59
      have b65 := hq_rng z60
      refine lv_aload_n hx hb dX7_takeVerb_61 rfl (lv_at hl 1 rfl) ?_
      refine hp_get (v := .ref (q_ou)) hx hb hts hown hZ ho61 fl_X7_30 rfl dX7_takeVerb_62 ?_
      have fx66 : V51 (q_ou) = some (.inr (0, [.ref (b_cn), .int (b_cs), .ref (b_vn), .ref (b_vc), .int (b_vs), .ref (b_ln), .int (b_ls)])) := (hq55.2 (q_ou) _ h_q_ou rfl).trans ((hq42.2 (q_ou) _ h_q_ou rfl).trans (fx30))
      refine hp_get (v := .ref (b_vc)) hx hb hts hown hZ fx66 fl_X7_86 rfl dX7_takeVerb_65 ?_
      refine lv_iload_n hx hb dX7_takeVerb_68 rfl (lv_at hl 0 rfl) ?_
      refine lv_aload_n hx hb dX7_takeVerb_69 rfl (lv_at hl 1 rfl) ?_
      refine lv_bipush (v := 8) hx hb dX7_takeVerb_70 (by decide) ?_
      have hl82 : (8 : Int32).toInt = 8 := by decide
      refine hp_calli (hp_runV (As := [.int (8)]) (rest := [.int (b_vs), .ref (b_vc)]) hx hb hml hown hts (t_X7_take_1 l D cs B G  V51 n hP.1  (t) h_t (8) ho61 h_q_tx h_q_ou h_q_nm (by omega) (by omega) (by omega) (by omega)) hZ ho61 cv_X7_58 rfl rfl ⟨Nat.le_of_ble_eq_true rfl, Nat.le_of_ble_eq_true rfl⟩ rfl hl.1 rfl (Nat.le_of_ble_eq_true rfl) dX7_takeVerb_72 ⟨(Nat.le_of_ble_eq_true rfl), (Nat.le_of_ble_eq_true rfl)⟩) hZ (fun r70 V67 n68 _ _ hw69 hZ => ?_)
      obtain ⟨rfl, hq71, ⟨z73, z74, z75, z76, z77, ho78, hi79, hi80, hi81⟩, hr72⟩ := hw69
      have hP := hP.trans hq71 (by intro g h; simp_all)
      have b83 := hq_rng z73
      have b84 := hq_rng z74
      have b85 := hq_rng z75
      have b86 := hq_rng z76
      have b87 := hq_rng z77
      have b88 := hq_rng r70
      refine lv_if_eq (tgt := 99) hx hb dX7_takeVerb_75 (by decide) (fun c89 => ?_) (fun c89 => ?_)
      · have c89 : (r70).toInt = (0 : Int) := hq_eqi.mp c89
        refine lv_iconst (v := -1) hx hb dX7_takeVerb_99 (by decide) ?_
        obtain ⟨hN92, g91, eV90, hf93⟩ := hq_o2 hP.1 h_b_vc
        refine hp_iast hx hb hZ eV90 (hq_in (by omega) (by omega)) dX7_takeVerb_100 (fun V94 _ _ e95 o96 hZ => ?_)
        have e95 : V94 (b_vc) = some (.inl (cs 1, 30, .inl (upd (g91) ((b_vs : Int32).toNatClampNeg) (-1)))) := e95
        have hP := hP.put h_b_vc e95 o96 (hq_c2 (by omega) (hq_upd hf93 (hq_rng _))) rfl
        refine lv_aload_n hx hb dX7_takeVerb_101 rfl (lv_at hl 1 rfl) ?_
        have fx97 : V94 (t) = some (.inr (7, [.int (z73), .int (z74), .ref (q_tx), .ref (q_ou), .int (z75), .int (z76), .int (z77), .ref (q_nm)])) := (o96 (t) (hq_tne h_t h_b_vc (by simp))).trans (ho78)
        refine hp_get (v := .ref (q_ou)) hx hb hts hown hZ fx97 fl_X7_30 rfl dX7_takeVerb_102 ?_
        refine lv_dup hx hb dX7_takeVerb_105 rfl ?_
        have fx98 : V94 (q_ou) = some (.inr (0, [.ref (b_cn), .int (b_cs), .ref (b_vn), .ref (b_vc), .int (b_vs), .ref (b_ln), .int (b_ls)])) := (o96 (q_ou) (hq_tne h_q_ou h_b_vc (by simp))).trans ((hq71.2 (q_ou) _ h_q_ou rfl).trans (fx66))
        refine hp_get (v := .int (b_vs)) hx hb hts hown hZ fx98 fl_X7_80 rfl dX7_takeVerb_106 ?_
        refine lv_iconst (v := 1) hx hb dX7_takeVerb_109 (by decide) ?_
        refine lv_iadd hx hb dX7_takeVerb_110 ?_
        refine lv_topi (fun y99 ey100 => ?_)
        obtain ⟨k101, hk102, b103, b104⟩ := hq_add (b_vs) (1)
        rw [← ey100] at hk102 b103 b104
        have hk102 : (y99).toInt = (b_vs).toInt + (1 : Int) + k101 * 4294967296 := hk102
        refine hp_put hx hb hts hown hZ fx98 fp_X7_80 rfl rfl (Nat.le_of_ble_eq_true rfl) dX7_takeVerb_111 (fun V105 _ _ e106 o107 hZ => ?_)
        have e106 : V105 (q_ou) = some (.inr (0, [.ref (b_cn), .int (b_cs), .ref (b_vn), .ref (b_vc), .int (y99), .ref (b_ln), .int (b_ls)])) := e106
        have hP := hP.put h_q_ou e106 o107 (hq_c6 h_b_cn h_b_vn h_b_vc h_b_ln (show 0 ≤ (b_cs).toInt ∧ (b_cs).toInt ≤ 6 by omega) (show 0 ≤ (y99).toInt ∧ (y99).toInt ≤ 30 by omega) (show 0 ≤ (b_ls).toInt ∧ (b_ls).toInt ≤ 60 by omega)) rfl
        refine lv_aload_n hx hb dX7_takeVerb_114 rfl (lv_at hl 1 rfl) ?_
        have fx108 : V105 (t) = some (.inr (7, [.int (z73), .int (z74), .ref (q_tx), .ref (q_ou), .int (z75), .int (z76), .int (z77), .ref (q_nm)])) := (o107 (t) (hq_tne h_t h_q_ou (by simp))).trans (fx97)
        refine hp_get (v := .ref (q_ou)) hx hb hts hown hZ fx108 fl_X7_30 rfl dX7_takeVerb_115 ?_
        refine hp_get (v := .ref (b_vc)) hx hb hts hown hZ e106 fl_X7_86 rfl dX7_takeVerb_118 ?_
        refine lv_iload_n hx hb dX7_takeVerb_121 rfl (lv_at hl 0 rfl) ?_
        obtain ⟨hN111, g110, eV109, hf112⟩ := hq_o2 hP.1 h_b_vc
        refine hp_iald hx hb hZ eV109 (hq_in (by omega) (by omega)) dX7_takeVerb_122 ?_
        refine lv_topi (fun y113 ey114 => ?_)
        have b115 := hq_rng y113
        refine lv_iconst (v := -1) hx hb dX7_takeVerb_123 (by decide) ?_
        refine lv_icmp_eq (tgt := 131) hx hb dX7_takeVerb_124 (by decide) (fun c116 => ?_) (fun c116 => ?_)
        · have c116 : (y113).toInt = (-1 : Int) := hq_eqi.mp c116
          refine lv_iconst (v := 0) hx hb dX7_takeVerb_131 (by decide) ?_
          exact hp_zret hx hb hr rfl hlocks hZ ⟨rfl, hP, ⟨z73, z74, z75, z76, z77, fx108, by omega, by omega, by omega⟩, ⟨y99, e106, by omega⟩, ⟨(by decide), fun h9 => absurd h9 (by decide)⟩⟩ dX7_takeVerb_132
        · have c116 : ¬ (y113).toInt = (-1 : Int) := fun h9 => c116 (hq_eqi.mpr h9)
          refine lv_iconst (v := 1) hx hb dX7_takeVerb_127 (by decide) ?_
          refine lv_goto (tgt := 132) hx hb dX7_takeVerb_128 (by decide) ?_
          exact hp_zret hx hb hr rfl hlocks hZ ⟨rfl, hP, ⟨z73, z74, z75, z76, z77, fx108, by omega, by omega, by omega⟩, ⟨y99, e106, by omega⟩, ⟨(by decide), fun _ hJ => hq_J.same hP.1 h_q_ou hJ ho_q_ou e106 (fun x t hx hg => hP.2 x t hx (by rcases hg with hg | hg <;> simp [hg]))⟩⟩ dX7_takeVerb_132
      · have c89 : ¬ (r70).toInt = (0 : Int) := fun h9 => c89 (hq_eqi.mpr h9)
        refine lv_aload_n hx hb dX7_takeVerb_78 rfl (lv_at hl 1 rfl) ?_
        refine lv_aload_n hx hb dX7_takeVerb_79 rfl (lv_at hl 1 rfl) ?_
        refine hp_get (v := .ref (q_ou)) hx hb hts hown hZ ho78 fl_X7_30 rfl dX7_takeVerb_80 ?_
        have fx117 : V67 (q_ou) = some (.inr (0, [.ref (b_cn), .int (b_cs), .ref (b_vn), .ref (b_vc), .int (b_vs), .ref (b_ln), .int (b_ls)])) := (hq71.2 (q_ou) _ h_q_ou rfl).trans (fx66)
        refine hp_get (v := .ref (b_cn)) hx hb hts hown hZ fx117 fl_X7_68 rfl dX7_takeVerb_83 ?_
        refine lv_aload_n hx hb dX7_takeVerb_86 rfl (lv_at hl 1 rfl) ?_
        refine hp_get (v := .ref (q_ou)) hx hb hts hown hZ ho78 fl_X7_30 rfl dX7_takeVerb_87 ?_
        refine hp_get (v := .int (b_cs)) hx hb hts hown hZ fx117 fl_X7_62 rfl dX7_takeVerb_90 ?_
        refine hp_calli (hp_runV (As := [.ref (b_cn), .int (b_cs)]) (rest := [.int (b_vs), .ref (b_vc)]) hx hb hml hown hts (t_X7_takeName_1 l D cs B G  V67 n hP.1 _ (t) h_t (b_cn) h_b_cn (b_cs) ho78 h_q_tx h_q_ou h_q_nm (by omega) (by omega) (by omega) (by omega) (by decide)) hZ ho78 cv_X7_90 rfl rfl ⟨Nat.le_of_ble_eq_true rfl, Nat.le_of_ble_eq_true rfl⟩ rfl hl.1 rfl (Nat.le_of_ble_eq_true rfl) dX7_takeVerb_93 ⟨(Nat.le_of_ble_eq_true rfl), (Nat.le_of_ble_eq_true rfl)⟩) hZ (fun r121 V118 n119 _ _ hw120 hZ => ?_)
        obtain ⟨rfl, hq122, ⟨z124, z125, z126, z127, z128, ho129, hi130, hi131, hi132⟩, hr123⟩ := hw120
        have hP := hP.trans hq122 (by intro g h; simp_all)
        have b133 := hq_rng z124
        have b134 := hq_rng z125
        have b135 := hq_rng z126
        have b136 := hq_rng z127
        have b137 := hq_rng z128
        have b138 := hq_rng r121
        refine lv_goto (tgt := 100) hx hb dX7_takeVerb_96 (by decide) ?_
        obtain ⟨hN141, g140, eV139, hf142⟩ := hq_o2 hP.1 h_b_vc
        refine hp_iast hx hb hZ eV139 (hq_in (by omega) (by omega)) dX7_takeVerb_100 (fun V143 _ _ e144 o145 hZ => ?_)
        have e144 : V143 (b_vc) = some (.inl (cs 1, 30, .inl (upd (g140) ((b_vs : Int32).toNatClampNeg) (r121)))) := e144
        have hP := hP.put h_b_vc e144 o145 (hq_c2 (by omega) (hq_upd hf142 (hq_rng _))) rfl
        refine lv_aload_n hx hb dX7_takeVerb_101 rfl (lv_at hl 1 rfl) ?_
        have fx146 : V143 (t) = some (.inr (7, [.int (z124), .int (z125), .ref (q_tx), .ref (q_ou), .int (z126), .int (z127), .int (z128), .ref (q_nm)])) := (o145 (t) (hq_tne h_t h_b_vc (by simp))).trans (ho129)
        refine hp_get (v := .ref (q_ou)) hx hb hts hown hZ fx146 fl_X7_30 rfl dX7_takeVerb_102 ?_
        refine lv_dup hx hb dX7_takeVerb_105 rfl ?_
        have fx147 : V143 (q_ou) = some (.inr (0, [.ref (b_cn), .int (b_cs), .ref (b_vn), .ref (b_vc), .int (b_vs), .ref (b_ln), .int (b_ls)])) := (o145 (q_ou) (hq_tne h_q_ou h_b_vc (by simp))).trans ((hq122.2 (q_ou) _ h_q_ou rfl).trans (fx117))
        refine hp_get (v := .int (b_vs)) hx hb hts hown hZ fx147 fl_X7_80 rfl dX7_takeVerb_106 ?_
        refine lv_iconst (v := 1) hx hb dX7_takeVerb_109 (by decide) ?_
        refine lv_iadd hx hb dX7_takeVerb_110 ?_
        refine lv_topi (fun y148 ey149 => ?_)
        obtain ⟨k150, hk151, b152, b153⟩ := hq_add (b_vs) (1)
        rw [← ey149] at hk151 b152 b153
        have hk151 : (y148).toInt = (b_vs).toInt + (1 : Int) + k150 * 4294967296 := hk151
        refine hp_put hx hb hts hown hZ fx147 fp_X7_80 rfl rfl (Nat.le_of_ble_eq_true rfl) dX7_takeVerb_111 (fun V154 _ _ e155 o156 hZ => ?_)
        have e155 : V154 (q_ou) = some (.inr (0, [.ref (b_cn), .int (b_cs), .ref (b_vn), .ref (b_vc), .int (y148), .ref (b_ln), .int (b_ls)])) := e155
        have hP := hP.put h_q_ou e155 o156 (hq_c6 h_b_cn h_b_vn h_b_vc h_b_ln (show 0 ≤ (b_cs).toInt ∧ (b_cs).toInt ≤ 6 by omega) (show 0 ≤ (y148).toInt ∧ (y148).toInt ≤ 30 by omega) (show 0 ≤ (b_ls).toInt ∧ (b_ls).toInt ≤ 60 by omega)) rfl
        refine lv_aload_n hx hb dX7_takeVerb_114 rfl (lv_at hl 1 rfl) ?_
        have fx157 : V154 (t) = some (.inr (7, [.int (z124), .int (z125), .ref (q_tx), .ref (q_ou), .int (z126), .int (z127), .int (z128), .ref (q_nm)])) := (o156 (t) (hq_tne h_t h_q_ou (by simp))).trans (fx146)
        refine hp_get (v := .ref (q_ou)) hx hb hts hown hZ fx157 fl_X7_30 rfl dX7_takeVerb_115 ?_
        refine hp_get (v := .ref (b_vc)) hx hb hts hown hZ e155 fl_X7_86 rfl dX7_takeVerb_118 ?_
        refine lv_iload_n hx hb dX7_takeVerb_121 rfl (lv_at hl 0 rfl) ?_
        obtain ⟨hN160, g159, eV158, hf161⟩ := hq_o2 hP.1 h_b_vc
        refine hp_iald hx hb hZ eV158 (hq_in (by omega) (by omega)) dX7_takeVerb_122 ?_
        refine lv_topi (fun y162 ey163 => ?_)
        have b164 := hq_rng y162
        refine lv_iconst (v := -1) hx hb dX7_takeVerb_123 (by decide) ?_
        refine lv_icmp_eq (tgt := 131) hx hb dX7_takeVerb_124 (by decide) (fun c165 => ?_) (fun c165 => ?_)
        · have c165 : (y162).toInt = (-1 : Int) := hq_eqi.mp c165
          refine lv_iconst (v := 0) hx hb dX7_takeVerb_131 (by decide) ?_
          exact hp_zret hx hb hr rfl hlocks hZ ⟨rfl, hP, ⟨z124, z125, z126, z127, z128, fx157, by omega, by omega, by omega⟩, ⟨y148, e155, by omega⟩, ⟨(by decide), fun h9 => absurd h9 (by decide)⟩⟩ dX7_takeVerb_132
        · have c165 : ¬ (y162).toInt = (-1 : Int) := fun h9 => c165 (hq_eqi.mpr h9)
          refine lv_iconst (v := 1) hx hb dX7_takeVerb_127 (by decide) ?_
          refine lv_goto (tgt := 132) hx hb dX7_takeVerb_128 (by decide) ?_
          exact hp_zret hx hb hr rfl hlocks hZ ⟨rfl, hP, ⟨z124, z125, z126, z127, z128, fx157, by omega, by omega, by omega⟩, ⟨y148, e155, by omega⟩, ⟨(by decide), fun _ hJ => hq_J.same hP.1 h_q_ou hJ ho_q_ou e155 (fun x t hx hg => hP.2 x t hx (by rcases hg with hg | hg <;> simp [hg]))⟩⟩ dX7_takeVerb_132
    · have c29 : (r20).toInt = (0 : Int) := hq_eqi.mp c29
      refine lv_iconst (v := 0) hx hb dX7_takeVerb_39 (by decide) ?_
      have fx166 : V17 (q_ou) = some (.inr (0, [.ref (b_cn), .int (b_cs), .ref (b_vn), .ref (b_vc), .int (b_vs), .ref (b_ln), .int (b_ls)])) := (hq21.2 (q_ou) _ h_q_ou rfl).trans (fx16)
      exact hp_zret hx hb hr rfl hlocks hZ ⟨rfl, hP, ⟨z23, z24, z8, z9, z10, ho25, by omega, by omega, by omega⟩, ⟨b_vs, fx166, by omega⟩, ⟨(by decide), fun h9 => absurd h9 (by decide)⟩⟩ dX7_takeVerb_40
  · have c1 : ¬ (b_vs).toInt < (30 : Int) := fun h9 => c1 (hq_lti.mpr h9)
    refine lv_aload_n hx hb dX7_takeVerb_14 rfl (lv_at hl 1 rfl) ?_
    refine lv_iconst (v := 4) hx hb dX7_takeVerb_15 (by decide) ?_
    have hl176 : (4 : Int32).toInt = 4 := by decide
    refine hp_calli (hp_runV (As := [.int (4)]) (rest := []) hx hb hml hown hts (t_X7_refuse_1 l D cs B G  V n hP.1  (t) h_t (4) ho_t h_q_tx h_q_ou h_q_nm ) hZ ho_t cv_X7_65 rfl rfl ⟨Nat.le_of_ble_eq_true rfl, Nat.le_of_ble_eq_true rfl⟩ rfl hl.1 rfl (Nat.le_of_ble_eq_true rfl) dX7_takeVerb_16 ⟨(Nat.le_of_ble_eq_true rfl), (Nat.le_of_ble_eq_true rfl)⟩) hZ (fun r170 V167 n168 _ _ hw169 hZ => ?_)
    obtain ⟨rfl, hq171, ⟨z173, z174, ho175⟩, hr172⟩ := hw169
    have hP := hP.trans hq171 (by intro g h; simp_all)
    have b177 := hq_rng z173
    have b178 := hq_rng z174
    have b179 := hq_rng r170
    have fx180 : V167 (q_ou) = some (.inr (0, [.ref (b_cn), .int (b_cs), .ref (b_vn), .ref (b_vc), .int (b_vs), .ref (b_ln), .int (b_ls)])) := (hq171.2 (q_ou) _ h_q_ou rfl).trans (ho_q_ou)
    exact hp_zret hx hb hr (hq_nzi (by omega) (by omega)) hlocks hZ ⟨rfl, hP, ⟨z173, z174, q_nx, q_tk, q_st, ho175, by omega, by omega, by omega⟩, ⟨b_vs, fx180, by omega⟩, ⟨(by omega), fun h9 => absurd h9 (by omega)⟩⟩ dX7_takeVerb_19

set_option maxHeartbeats 4000000 in
set_option maxRecDepth 100000 in
theorem t_X7_takeLine_1 (l : Launch) (D : va_G) (cs : Nat → ClassId) (B : Nat) (G : hq_G) (V : hp_V) (n : Nat) (hI : hq_I cs G V) (t : Nat) (h_t : G t = some (10, 0, 0, 0)) {q_tx q_ou q_nm : Nat} {q_fk q_fp q_nx q_tk q_st : Int32} (ho_t : V t = some (.inr (7, [.int (q_fk), .int (q_fp), .ref (q_tx), .ref (q_ou), .int (q_nx), .int (q_tk), .int (q_st), .ref (q_nm)]))) (h_q_tx : G q_tx = some (0, 4000, 0, 0)) (h_q_ou : G q_ou = some (6, 1, 0, 0)) (h_q_nm : G q_nm = some (0, 12, 0, 0)) (hi_t0 : 0 ≤ q_nx.toInt ∧ q_nx.toInt ≤ 4002) (hi_t1 : 0 ≤ q_st.toInt ∧ q_st.toInt ≤ 4001) (hi_t2 : q_nx.toInt ≤ 4001 ∨ q_tk.toInt = 21) {b_cn b_vn b_vc b_ln : Nat} {b_cs b_vs b_ls : Int32} (ho_q_ou : V q_ou = some (.inr (0, [.ref (b_cn), .int (b_cs), .ref (b_vn), .ref (b_vc), .int (b_vs), .ref (b_ln), .int (b_ls)]))) (h_b_cn : G b_cn = some (4, 7, 6, 0)) (h_b_vn : G b_vn = some (4, 7, 30, 0)) (h_b_vc : G b_vc = some (2, 3, 30, 0)) (h_b_ln : G b_ln = some (4, 6, 60, 1)) (hi_q_ou0 : 0 ≤ b_cs.toInt ∧ b_cs.toInt ≤ 6) (hi_q_ou1 : 0 ≤ b_vs.toInt ∧ b_vs.toInt ≤ 30) (hi_q_ou2 : 0 ≤ b_ls.toInt ∧ b_ls.toInt ≤ 60) : hp_M l yX7_takeLine cX7_takeLine 3 (some .boolean) ({ frames := 9, cells := 0, slots := 0, locals := 197 }) D cs B V n [.ref (t)] (hp_QI D cs B (fun r V' n' => n = n' ∧ hq_P cs G (fun g => g.1 == 3 || g.1 == 4 || (g.1 == 20 && g.2 == 1) || (g.1 == 21 && g.2 == 1)) V V' ∧ (∃ (q_fk1 : Int32) (q_fp1 : Int32) (q_nx1 : Int32) (q_tk1 : Int32) (q_st1 : Int32), V' t = some (.inr (7, [.int (q_fk1), .int (q_fp1), .ref (q_tx), .ref (q_ou), .int (q_nx1), .int (q_tk1), .int (q_st1), .ref (q_nm)])) ∧ (0 ≤ q_nx1.toInt ∧ q_nx1.toInt ≤ 4002) ∧ (0 ≤ q_st1.toInt ∧ q_st1.toInt ≤ 4001) ∧ (q_nx1.toInt ≤ 4001 ∨ q_tk1.toInt = 21)) ∧ (∃ (b_ls1 : Int32), V' q_ou = some (.inr (0, [.ref (b_cn), .int (b_cs), .ref (b_vn), .ref (b_vc), .int (b_vs), .ref (b_ln), .int (b_ls1)])) ∧ (0 ≤ b_ls1.toInt ∧ b_ls1.toInt ≤ 60)) ∧ ((0 ≤ r.toInt ∧ r.toInt ≤ 1) ∧ hq_JJ cs V V' q_ou r))) 0 0 := by
  refine hp_walk (R0 := RX7) (by decide) rfl ?_ (Nat.le_of_ble_eq_true rfl)
  intro p e s m below meth c ls hx hb hr hts hown hlocks hin hml hZ hl
  have hP : hq_P cs G (fun g => g.1 == 3 || g.1 == 4 || (g.1 == 20 && g.2 == 1) || (g.1 == 21 && g.2 == 1)) V V := hq_P.rf hI
  have hl : lv_has ls 3 [(0, .ref (t))] := hl
  have hb_q_fk := hq_rng q_fk
  have hb_q_fp := hq_rng q_fp
  have hb_q_nx := hq_rng q_nx
  have hb_q_tk := hq_rng q_tk
  have hb_q_st := hq_rng q_st
  have hb_b_cs := hq_rng b_cs
  have hb_b_vs := hq_rng b_vs
  have hb_b_ls := hq_rng b_ls
  refine lv_aload_n hx hb dX7_takeLine_0 rfl (lv_at hl 0 rfl) ?_
  refine hp_get (v := .int (q_tk)) hx hb hts hown hZ ho_t fl_X7_45 rfl dX7_takeLine_1 ?_
  refine lv_if_lt (tgt := 15) hx hb dX7_takeLine_4 (by decide) (fun c1 => ?_) (fun c1 => ?_)
  · have c1 : (q_tk).toInt < (0 : Int) := hq_lti.mp c1
    refine lv_aload_n hx hb dX7_takeLine_15 rfl (lv_at hl 0 rfl) ?_
    refine lv_iconst (v := 1) hx hb dX7_takeLine_16 (by decide) ?_
    have hl11 : (1 : Int32).toInt = 1 := by decide
    refine hp_calli (hp_runV (As := [.int (1)]) (rest := []) hx hb hml hown hts (t_X7_refuse_1 l D cs B G  V n hP.1  (t) h_t (1) ho_t h_q_tx h_q_ou h_q_nm ) hZ ho_t cv_X7_65 rfl rfl ⟨Nat.le_of_ble_eq_true rfl, Nat.le_of_ble_eq_true rfl⟩ rfl hl.1 rfl (Nat.le_of_ble_eq_true rfl) dX7_takeLine_17 ⟨(Nat.le_of_ble_eq_true rfl), (Nat.le_of_ble_eq_true rfl)⟩) hZ (fun r5 V2 n3 _ _ hw4 hZ => ?_)
    obtain ⟨rfl, hq6, ⟨z8, z9, ho10⟩, hr7⟩ := hw4
    have hP := hP.trans hq6 (by intro g h; simp_all)
    have b12 := hq_rng z8
    have b13 := hq_rng z9
    have b14 := hq_rng r5
    have fx15 : V2 (q_ou) = some (.inr (0, [.ref (b_cn), .int (b_cs), .ref (b_vn), .ref (b_vc), .int (b_vs), .ref (b_ln), .int (b_ls)])) := (hq6.2 (q_ou) _ h_q_ou rfl).trans (ho_q_ou)
    exact hp_zret hx hb hr (hq_nzi (by omega) (by omega)) hlocks hZ ⟨rfl, hP, ⟨z8, z9, q_nx, q_tk, q_st, ho10, by omega, by omega, by omega⟩, ⟨b_ls, fx15, by omega⟩, ⟨(by omega), fun h9 => absurd h9 (by omega)⟩⟩ dX7_takeLine_20
  · have c1 : ¬ (q_tk).toInt < (0 : Int) := fun h9 => c1 (hq_lti.mpr h9)
    refine lv_aload_n hx hb dX7_takeLine_7 rfl (lv_at hl 0 rfl) ?_
    refine hp_get (v := .int (q_tk)) hx hb hts hown hZ ho_t fl_X7_45 rfl dX7_takeLine_8 ?_
    refine lv_iconst (v := 5) hx hb dX7_takeLine_11 (by decide) ?_
    refine lv_icmp_le (tgt := 21) hx hb dX7_takeLine_12 (by decide) (fun c16 => ?_) (fun c16 => ?_)
    · have c16 : (q_tk).toInt ≤ (5 : Int) := hq_lei.mp c16
      refine lv_aload_n hx hb dX7_takeLine_21 rfl (lv_at hl 0 rfl) ?_
      refine hp_get (v := .ref (q_ou)) hx hb hts hown hZ ho_t fl_X7_30 rfl dX7_takeLine_22 ?_
      refine hp_get (v := .int (b_ls)) hx hb hts hown hZ ho_q_ou fl_X7_94 rfl dX7_takeLine_25 ?_
      refine lv_bipush (v := 60) hx hb dX7_takeLine_28 (by decide) ?_
      refine lv_icmp_lt (tgt := 39) hx hb dX7_takeLine_30 (by decide) (fun c17 => ?_) (fun c17 => ?_)
      · have c17 : (b_ls).toInt < (60 : Int) := hq_lti.mp c17
        refine lv_aload_n hx hb dX7_takeLine_39 rfl (lv_at hl 0 rfl) ?_
        refine hp_get (v := .ref (q_ou)) hx hb hts hown hZ ho_t fl_X7_30 rfl dX7_takeLine_40 ?_
        refine hp_get (v := .ref (b_ln)) hx hb hts hown hZ ho_q_ou fl_X7_97 rfl dX7_takeLine_43 ?_
        refine lv_aload_n hx hb dX7_takeLine_46 rfl (lv_at hl 0 rfl) ?_
        refine hp_get (v := .ref (q_ou)) hx hb hts hown hZ ho_t fl_X7_30 rfl dX7_takeLine_47 ?_
        refine hp_get (v := .int (b_ls)) hx hb hts hown hZ ho_q_ou fl_X7_94 rfl dX7_takeLine_50 ?_
        obtain ⟨hN20, g19, eV18, hf21, _⟩ := hq_o4 hP.1 h_b_ln
        obtain ⟨u22, hx23, hu24⟩ := hf21 (b_ls : Int32).toNatClampNeg (hq_ix (by omega) (by omega))
        have hu24 : G u22 = some (5, 1, 0, 0) := hu24
        refine hp_aald (v := .ref (u22)) hx hb hZ 6 eV18 rfl (hq_in (by omega) (by omega)) (by rw [hx23]; rfl) dX7_takeLine_53 ?_
        refine lv_astore_n (lv' := [(1, .ref (u22)), (0, .ref (t))]) hx hb dX7_takeLine_54 rfl hl (by decide) rfl (fun ls hl => ?_)
        refine lv_aload_n hx hb dX7_takeLine_55 rfl (lv_at hl 0 rfl) ?_
        refine lv_aload_n hx hb dX7_takeLine_56 rfl (lv_at hl 1 rfl) ?_
        refine hp_get (v := .int (q_tk)) hx hb hts hown hZ ho_t fl_X7_45 rfl dX7_takeLine_57 ?_
        obtain ⟨z32, z33, z34, z35, z36, z37, z38, z39, u40, u41, eV31, hu42, hu43, h44, h45⟩ := hq_o5 hP.1 hu24
        refine hp_callv (hp_runV (As := [.int (q_tk)]) (rest := []) hx hb hml hown hts (t_X5_begin_1 l D cs B G  V n hP.1  (u22) hu24 (q_tk) eV31 hu42 hu43 (by omega) ) hZ eV31 cv_X7_101 rfl rfl ⟨Nat.le_of_ble_eq_true rfl, Nat.le_of_ble_eq_true rfl⟩ rfl hl.1 rfl (Nat.le_of_ble_eq_true rfl) dX7_takeLine_60 ⟨(Nat.le_of_ble_eq_true rfl), (Nat.le_of_ble_eq_true rfl)⟩) hZ (fun V25 n26 _ _ hw27 hZ => ?_)
        obtain ⟨rfl, hq29, ⟨z46, z47, z48, z49, z50, z51, z52, z53, ho54, hi55, hi56⟩, lf57⟩ := hw27
        have hP := hP.trans hq29 (by intro g h; simp_all)
        have b58 := hq_rng z46
        have b59 := hq_rng z47
        have b60 := hq_rng z48
        have b61 := hq_rng z49
        have b62 := hq_rng z50
        have b63 := hq_rng z51
        have b64 := hq_rng z52
        have b65 := hq_rng z53
        refine lv_aload_n hx hb dX7_takeLine_63 rfl (lv_at hl 1 rfl) ?_
        have fx72 : V25 (t) = some (.inr (7, [.int (q_fk), .int (q_fp), .ref (q_tx), .ref (q_ou), .int (q_nx), .int (q_tk), .int (q_st), .ref (q_nm)])) := (hq29.2 (t) _ h_t rfl).trans (ho_t)
        refine hp_callv (hp_runV (As := []) (rest := []) hx hb hml hown hts (t_X7_step_1 l D cs B G  V25 n hP.1  (t) h_t fx72 h_q_tx h_q_ou h_q_nm (by omega) (by omega)) hZ fx72 cv_X7_42 rfl rfl ⟨Nat.le_of_ble_eq_true rfl, Nat.le_of_ble_eq_true rfl⟩ rfl hl.1 rfl (Nat.le_of_ble_eq_true rfl) dX7_takeLine_64 ⟨(Nat.le_of_ble_eq_true rfl), (Nat.le_of_ble_eq_true rfl)⟩) hZ (fun V66 n67 _ _ hw68 hZ => ?_)
        obtain ⟨rfl, hq70, ⟨z73, z74, z75, ho76, hi77⟩⟩ := hw68
        have hP := hP.trans hq70 (by intro g h; simp_all)
        have b78 := hq_rng z73
        have b79 := hq_rng z74
        have b80 := hq_rng z75
        refine lv_aload_n hx hb dX7_takeLine_67 rfl (lv_at hl 0 rfl) ?_
        have fx81 : V66 (u22) = some (.inr (5, [.int (z46), .int (z47), .int (z48), .int (z49), .int (z50), .int (z51), .int (z52), .int (z53), .ref (u40), .ref (u41)])) := (hq70.2 (u22) _ hu24 rfl).trans (ho54)
        refine hp_get (v := .int (z46)) hx hb hts hown hZ fx81 fl_X7_106 rfl dX7_takeLine_68 ?_
        rcases Classical.em (z46 = 0) with h82 | h82
        · refine lv_tableIn (off := 33) (tgt := 104) hx hb dX7_takeLine_71 (by rw [h82]; decide) (by rw [h82]; decide) (by rw [h82]; decide) (by decide) ?_
          have b83 : (z46).toInt = 0 := by rw [h82]; decide
          refine lv_aload_n hx hb dX7_takeLine_104 rfl (lv_at hl 1 rfl) ?_
          refine lv_aload_n hx hb dX7_takeLine_105 rfl (lv_at hl 0 rfl) ?_
          refine hp_calli (hp_runV (As := [.ref (u22)]) (rest := []) hx hb hml hown hts (t_X7_takeWhere_1 l D cs B G  V66 n hP.1  (t) h_t (u22) hu24 ho76 h_q_tx h_q_ou h_q_nm (by omega) (by omega) (by omega) fx81 hu42 hu43 (by omega) ) hZ ho76 cv_X7_109 rfl rfl ⟨Nat.le_of_ble_eq_true rfl, Nat.le_of_ble_eq_true rfl⟩ rfl hl.1 rfl (Nat.le_of_ble_eq_true rfl) dX7_takeLine_106 ⟨(Nat.le_of_ble_eq_true rfl), (Nat.le_of_ble_eq_true rfl)⟩) hZ (fun r87 V84 n85 _ _ hw86 hZ => ?_)
          obtain ⟨rfl, hq88, ⟨z90, z91, z92, z93, z94, ho95, hi96, hi97, hi98⟩, ⟨z99, ho100⟩, lf101, hr89⟩ := hw86
          have hP := hP.trans hq88 (by intro g h; simp_all)
          have b102 := hq_rng z90
          have b103 := hq_rng z91
          have b104 := hq_rng z92
          have b105 := hq_rng z93
          have b106 := hq_rng z94
          have b107 := hq_rng z99
          have b108 := hq_rng r87
          refine lv_if_eq (tgt := 132) hx hb dX7_takeLine_109 (by decide) (fun c109 => ?_) (fun c109 => ?_)
          · have c109 : (r87).toInt = (0 : Int) := hq_eqi.mp c109
            refine lv_iconst (v := 0) hx hb dX7_takeLine_132 (by decide) ?_
            refine lv_istore_n (lv' := [(2, .int (0)), (1, .ref (u22)), (0, .ref (t))]) hx hb dX7_takeLine_133 rfl hl (by decide) rfl (fun ls hl => ?_)
            refine lv_goto (tgt := 278) hx hb dX7_takeLine_134 (by decide) ?_
            refine lv_aload_n hx hb dX7_takeLine_278 rfl (lv_at hl 2 rfl) ?_
            refine hp_get (v := .ref (q_ou)) hx hb hts hown hZ ho95 fl_X7_30 rfl dX7_takeLine_279 ?_
            refine lv_dup hx hb dX7_takeLine_282 rfl ?_
            have fx110 : V84 (q_ou) = some (.inr (0, [.ref (b_cn), .int (b_cs), .ref (b_vn), .ref (b_vc), .int (b_vs), .ref (b_ln), .int (b_ls)])) := (hq88.2 (q_ou) _ h_q_ou rfl).trans ((hq70.2 (q_ou) _ h_q_ou rfl).trans ((hq29.2 (q_ou) _ h_q_ou rfl).trans (ho_q_ou)))
            refine hp_get (v := .int (b_ls)) hx hb hts hown hZ fx110 fl_X7_94 rfl dX7_takeLine_283 ?_
            refine lv_iconst (v := 1) hx hb dX7_takeLine_286 (by decide) ?_
            refine lv_iadd hx hb dX7_takeLine_287 ?_
            refine lv_topi (fun y111 ey112 => ?_)
            obtain ⟨k113, hk114, b115, b116⟩ := hq_add (b_ls) (1)
            rw [← ey112] at hk114 b115 b116
            have hk114 : (y111).toInt = (b_ls).toInt + (1 : Int) + k113 * 4294967296 := hk114
            refine hp_put hx hb hts hown hZ fx110 fp_X7_94 rfl rfl (Nat.le_of_ble_eq_true rfl) dX7_takeLine_288 (fun V117 _ _ e118 o119 hZ => ?_)
            have e118 : V117 (q_ou) = some (.inr (0, [.ref (b_cn), .int (b_cs), .ref (b_vn), .ref (b_vc), .int (b_vs), .ref (b_ln), .int (y111)])) := e118
            have hP := hP.put h_q_ou e118 o119 (hq_c6 h_b_cn h_b_vn h_b_vc h_b_ln (show 0 ≤ (b_cs).toInt ∧ (b_cs).toInt ≤ 6 by omega) (show 0 ≤ (b_vs).toInt ∧ (b_vs).toInt ≤ 30 by omega) (show 0 ≤ (y111).toInt ∧ (y111).toInt ≤ 60 by omega)) rfl
            refine lv_iload_n hx hb dX7_takeLine_291 rfl (lv_at hl 0 rfl) ?_
            have fx120 : V117 (t) = some (.inr (7, [.int (z90), .int (z91), .ref (q_tx), .ref (q_ou), .int (z92), .int (z93), .int (z94), .ref (q_nm)])) := (o119 (t) (hq_tne h_t h_q_ou (by simp))).trans (ho95)
            exact hp_zret hx hb hr rfl hlocks hZ ⟨rfl, hP, ⟨z90, z91, z92, z93, z94, fx120, by omega, by omega, by omega⟩, ⟨y111, e118, by omega⟩, ⟨(by decide), fun h9 => absurd h9 (by decide)⟩⟩ dX7_takeLine_292
          · have c109 : ¬ (r87).toInt = (0 : Int) := fun h9 => c109 (hq_eqi.mpr h9)
            refine lv_aload_n hx hb dX7_takeLine_112 rfl (lv_at hl 1 rfl) ?_
            refine lv_aload_n hx hb dX7_takeLine_113 rfl (lv_at hl 0 rfl) ?_
            refine hp_calli (hp_runV (As := [.ref (u22)]) (rest := []) hx hb hml hown hts (t_X7_takeSlot_1 l D cs B G  V84 n hP.1  (t) h_t (u22) hu24 ho95 h_q_tx h_q_ou h_q_nm (by omega) (by omega) (by omega) ho100 hu42 hu43 (by omega) ) hZ ho95 cv_X7_113 rfl rfl ⟨Nat.le_of_ble_eq_true rfl, Nat.le_of_ble_eq_true rfl⟩ rfl hl.1 rfl (Nat.le_of_ble_eq_true rfl) dX7_takeLine_114 ⟨(Nat.le_of_ble_eq_true rfl), (Nat.le_of_ble_eq_true rfl)⟩) hZ (fun r124 V121 n122 _ _ hw123 hZ => ?_)
            obtain ⟨rfl, hq125, ⟨z127, z128, z129, z130, z131, ho132, hi133, hi134, hi135⟩, ⟨z136, z137, ho138⟩, lf139, hr126⟩ := hw123
            have hP := hP.trans hq125 (by intro g h; simp_all)
            have b140 := hq_rng z127
            have b141 := hq_rng z128
            have b142 := hq_rng z129
            have b143 := hq_rng z130
            have b144 := hq_rng z131
            have b145 := hq_rng z136
            have b146 := hq_rng z137
            have b147 := hq_rng r124
            refine lv_if_eq (tgt := 132) hx hb dX7_takeLine_117 (by decide) (fun c148 => ?_) (fun c148 => ?_)
            · have c148 : (r124).toInt = (0 : Int) := hq_eqi.mp c148
              refine lv_iconst (v := 0) hx hb dX7_takeLine_132 (by decide) ?_
              refine lv_istore_n (lv' := [(2, .int (0)), (1, .ref (u22)), (0, .ref (t))]) hx hb dX7_takeLine_133 rfl hl (by decide) rfl (fun ls hl => ?_)
              refine lv_goto (tgt := 278) hx hb dX7_takeLine_134 (by decide) ?_
              refine lv_aload_n hx hb dX7_takeLine_278 rfl (lv_at hl 2 rfl) ?_
              refine hp_get (v := .ref (q_ou)) hx hb hts hown hZ ho132 fl_X7_30 rfl dX7_takeLine_279 ?_
              refine lv_dup hx hb dX7_takeLine_282 rfl ?_
              have fx149 : V121 (q_ou) = some (.inr (0, [.ref (b_cn), .int (b_cs), .ref (b_vn), .ref (b_vc), .int (b_vs), .ref (b_ln), .int (b_ls)])) := (hq125.2 (q_ou) _ h_q_ou rfl).trans ((hq88.2 (q_ou) _ h_q_ou rfl).trans ((hq70.2 (q_ou) _ h_q_ou rfl).trans ((hq29.2 (q_ou) _ h_q_ou rfl).trans (ho_q_ou))))
              refine hp_get (v := .int (b_ls)) hx hb hts hown hZ fx149 fl_X7_94 rfl dX7_takeLine_283 ?_
              refine lv_iconst (v := 1) hx hb dX7_takeLine_286 (by decide) ?_
              refine lv_iadd hx hb dX7_takeLine_287 ?_
              refine lv_topi (fun y150 ey151 => ?_)
              obtain ⟨k152, hk153, b154, b155⟩ := hq_add (b_ls) (1)
              rw [← ey151] at hk153 b154 b155
              have hk153 : (y150).toInt = (b_ls).toInt + (1 : Int) + k152 * 4294967296 := hk153
              refine hp_put hx hb hts hown hZ fx149 fp_X7_94 rfl rfl (Nat.le_of_ble_eq_true rfl) dX7_takeLine_288 (fun V156 _ _ e157 o158 hZ => ?_)
              have e157 : V156 (q_ou) = some (.inr (0, [.ref (b_cn), .int (b_cs), .ref (b_vn), .ref (b_vc), .int (b_vs), .ref (b_ln), .int (y150)])) := e157
              have hP := hP.put h_q_ou e157 o158 (hq_c6 h_b_cn h_b_vn h_b_vc h_b_ln (show 0 ≤ (b_cs).toInt ∧ (b_cs).toInt ≤ 6 by omega) (show 0 ≤ (b_vs).toInt ∧ (b_vs).toInt ≤ 30 by omega) (show 0 ≤ (y150).toInt ∧ (y150).toInt ≤ 60 by omega)) rfl
              refine lv_iload_n hx hb dX7_takeLine_291 rfl (lv_at hl 0 rfl) ?_
              have fx159 : V156 (t) = some (.inr (7, [.int (z127), .int (z128), .ref (q_tx), .ref (q_ou), .int (z129), .int (z130), .int (z131), .ref (q_nm)])) := (o158 (t) (hq_tne h_t h_q_ou (by simp))).trans (ho132)
              exact hp_zret hx hb hr rfl hlocks hZ ⟨rfl, hP, ⟨z127, z128, z129, z130, z131, fx159, by omega, by omega, by omega⟩, ⟨y150, e157, by omega⟩, ⟨(by decide), fun h9 => absurd h9 (by decide)⟩⟩ dX7_takeLine_292
            · have c148 : ¬ (r124).toInt = (0 : Int) := fun h9 => c148 (hq_eqi.mpr h9)
              refine lv_aload_n hx hb dX7_takeLine_120 rfl (lv_at hl 1 rfl) ?_
              refine lv_aload_n hx hb dX7_takeLine_121 rfl (lv_at hl 0 rfl) ?_
              refine hp_calli (hp_runV (As := [.ref (u22)]) (rest := []) hx hb hml hown hts (t_X7_takeChange_1 l D cs B G  V121 n hP.1  (t) h_t (u22) hu24 ho132 h_q_tx h_q_ou h_q_nm (by omega) (by omega) (by omega) ) hZ ho132 cv_X7_116 rfl rfl ⟨Nat.le_of_ble_eq_true rfl, Nat.le_of_ble_eq_true rfl⟩ rfl hl.1 rfl (Nat.le_of_ble_eq_true rfl) dX7_takeLine_122 ⟨(Nat.le_of_ble_eq_true rfl), (Nat.le_of_ble_eq_true rfl)⟩) hZ (fun r163 V160 n161 _ _ hw162 hZ => ?_)
              obtain ⟨rfl, hq164, ⟨z166, z167, z168, z169, z170, ho171, hi172, hi173, hi174⟩, hr165⟩ := hw162
              have hP := hP.trans hq164 (by intro g h; simp_all)
              have b175 := hq_rng z166
              have b176 := hq_rng z167
              have b177 := hq_rng z168
              have b178 := hq_rng z169
              have b179 := hq_rng z170
              have b180 := hq_rng r163
              refine lv_if_eq (tgt := 132) hx hb dX7_takeLine_125 (by decide) (fun c181 => ?_) (fun c181 => ?_)
              · have c181 : (r163).toInt = (0 : Int) := hq_eqi.mp c181
                refine lv_iconst (v := 0) hx hb dX7_takeLine_132 (by decide) ?_
                refine lv_istore_n (lv' := [(2, .int (0)), (1, .ref (u22)), (0, .ref (t))]) hx hb dX7_takeLine_133 rfl hl (by decide) rfl (fun ls hl => ?_)
                refine lv_goto (tgt := 278) hx hb dX7_takeLine_134 (by decide) ?_
                refine lv_aload_n hx hb dX7_takeLine_278 rfl (lv_at hl 2 rfl) ?_
                refine hp_get (v := .ref (q_ou)) hx hb hts hown hZ ho171 fl_X7_30 rfl dX7_takeLine_279 ?_
                refine lv_dup hx hb dX7_takeLine_282 rfl ?_
                have fx182 : V160 (q_ou) = some (.inr (0, [.ref (b_cn), .int (b_cs), .ref (b_vn), .ref (b_vc), .int (b_vs), .ref (b_ln), .int (b_ls)])) := (hq164.2 (q_ou) _ h_q_ou rfl).trans ((hq125.2 (q_ou) _ h_q_ou rfl).trans ((hq88.2 (q_ou) _ h_q_ou rfl).trans ((hq70.2 (q_ou) _ h_q_ou rfl).trans ((hq29.2 (q_ou) _ h_q_ou rfl).trans (ho_q_ou)))))
                refine hp_get (v := .int (b_ls)) hx hb hts hown hZ fx182 fl_X7_94 rfl dX7_takeLine_283 ?_
                refine lv_iconst (v := 1) hx hb dX7_takeLine_286 (by decide) ?_
                refine lv_iadd hx hb dX7_takeLine_287 ?_
                refine lv_topi (fun y183 ey184 => ?_)
                obtain ⟨k185, hk186, b187, b188⟩ := hq_add (b_ls) (1)
                rw [← ey184] at hk186 b187 b188
                have hk186 : (y183).toInt = (b_ls).toInt + (1 : Int) + k185 * 4294967296 := hk186
                refine hp_put hx hb hts hown hZ fx182 fp_X7_94 rfl rfl (Nat.le_of_ble_eq_true rfl) dX7_takeLine_288 (fun V189 _ _ e190 o191 hZ => ?_)
                have e190 : V189 (q_ou) = some (.inr (0, [.ref (b_cn), .int (b_cs), .ref (b_vn), .ref (b_vc), .int (b_vs), .ref (b_ln), .int (y183)])) := e190
                have hP := hP.put h_q_ou e190 o191 (hq_c6 h_b_cn h_b_vn h_b_vc h_b_ln (show 0 ≤ (b_cs).toInt ∧ (b_cs).toInt ≤ 6 by omega) (show 0 ≤ (b_vs).toInt ∧ (b_vs).toInt ≤ 30 by omega) (show 0 ≤ (y183).toInt ∧ (y183).toInt ≤ 60 by omega)) rfl
                refine lv_iload_n hx hb dX7_takeLine_291 rfl (lv_at hl 0 rfl) ?_
                have fx192 : V189 (t) = some (.inr (7, [.int (z166), .int (z167), .ref (q_tx), .ref (q_ou), .int (z168), .int (z169), .int (z170), .ref (q_nm)])) := (o191 (t) (hq_tne h_t h_q_ou (by simp))).trans (ho171)
                exact hp_zret hx hb hr rfl hlocks hZ ⟨rfl, hP, ⟨z166, z167, z168, z169, z170, fx192, by omega, by omega, by omega⟩, ⟨y183, e190, by omega⟩, ⟨(by decide), fun h9 => absurd h9 (by decide)⟩⟩ dX7_takeLine_292
              · have c181 : ¬ (r163).toInt = (0 : Int) := fun h9 => c181 (hq_eqi.mpr h9)
                refine lv_iconst (v := 1) hx hb dX7_takeLine_128 (by decide) ?_
                refine lv_goto (tgt := 133) hx hb dX7_takeLine_129 (by decide) ?_
                refine lv_istore_n (lv' := [(2, .int (1)), (1, .ref (u22)), (0, .ref (t))]) hx hb dX7_takeLine_133 rfl hl (by decide) rfl (fun ls hl => ?_)
                refine lv_goto (tgt := 278) hx hb dX7_takeLine_134 (by decide) ?_
                refine lv_aload_n hx hb dX7_takeLine_278 rfl (lv_at hl 2 rfl) ?_
                refine hp_get (v := .ref (q_ou)) hx hb hts hown hZ ho171 fl_X7_30 rfl dX7_takeLine_279 ?_
                refine lv_dup hx hb dX7_takeLine_282 rfl ?_
                have fx193 : V160 (q_ou) = some (.inr (0, [.ref (b_cn), .int (b_cs), .ref (b_vn), .ref (b_vc), .int (b_vs), .ref (b_ln), .int (b_ls)])) := (hq164.2 (q_ou) _ h_q_ou rfl).trans ((hq125.2 (q_ou) _ h_q_ou rfl).trans ((hq88.2 (q_ou) _ h_q_ou rfl).trans ((hq70.2 (q_ou) _ h_q_ou rfl).trans ((hq29.2 (q_ou) _ h_q_ou rfl).trans (ho_q_ou)))))
                refine hp_get (v := .int (b_ls)) hx hb hts hown hZ fx193 fl_X7_94 rfl dX7_takeLine_283 ?_
                refine lv_iconst (v := 1) hx hb dX7_takeLine_286 (by decide) ?_
                refine lv_iadd hx hb dX7_takeLine_287 ?_
                refine lv_topi (fun y194 ey195 => ?_)
                obtain ⟨k196, hk197, b198, b199⟩ := hq_add (b_ls) (1)
                rw [← ey195] at hk197 b198 b199
                have hk197 : (y194).toInt = (b_ls).toInt + (1 : Int) + k196 * 4294967296 := hk197
                refine hp_put hx hb hts hown hZ fx193 fp_X7_94 rfl rfl (Nat.le_of_ble_eq_true rfl) dX7_takeLine_288 (fun V200 _ _ e201 o202 hZ => ?_)
                have e201 : V200 (q_ou) = some (.inr (0, [.ref (b_cn), .int (b_cs), .ref (b_vn), .ref (b_vc), .int (b_vs), .ref (b_ln), .int (y194)])) := e201
                have hP := hP.put h_q_ou e201 o202 (hq_c6 h_b_cn h_b_vn h_b_vc h_b_ln (show 0 ≤ (b_cs).toInt ∧ (b_cs).toInt ≤ 6 by omega) (show 0 ≤ (b_vs).toInt ∧ (b_vs).toInt ≤ 30 by omega) (show 0 ≤ (y194).toInt ∧ (y194).toInt ≤ 60 by omega)) rfl
                refine lv_iload_n hx hb dX7_takeLine_291 rfl (lv_at hl 0 rfl) ?_
                have fx203 : V200 (t) = some (.inr (7, [.int (z166), .int (z167), .ref (q_tx), .ref (q_ou), .int (z168), .int (z169), .int (z170), .ref (q_nm)])) := (o202 (t) (hq_tne h_t h_q_ou (by simp))).trans (ho171)
                have fx204 : V200 (u22) = some (.inr (5, [.int (z46), .int (z99), .int (z136), .int (z137), .int (z50), .int (z51), .int (z52), .int (z53), .ref (u40), .ref (u41)])) := (o202 (u22) (hq_tne hu24 h_q_ou (by simp))).trans ((hq164.2 (u22) _ hu24 rfl).trans (ho138))
                exact hp_zret hx hb hr rfl hlocks hZ ⟨rfl, hP, ⟨z166, z167, z168, z169, z170, fx203, by omega, by omega, by omega⟩, ⟨y194, e201, by omega⟩, ⟨(by decide), fun _ hJ => hq_J.add hI h_q_ou hJ ho_q_ou e201 (by omega) (by omega) (by omega) eV18 (fun x t hx hg => hP.2 x t hx (by simp [hg])) hx23 fx204 (fun x9 hx9 hne9 => (o202 x9 (hq_tne hx9 h_q_ou (by simp))).trans ((hq164.2 x9 _ hx9 rfl).trans ((lf139 x9 hx9 hne9).trans ((lf101 x9 hx9 hne9).trans ((hq70.2 x9 _ hx9 rfl).trans (lf57 x9 hx9 hne9)))))) (fun h9 => by omega)⟩⟩ dX7_takeLine_292
        ·
          rcases Classical.em (z46 = 1) with h205 | h205
          · refine lv_tableIn (off := 66) (tgt := 137) hx hb dX7_takeLine_71 (by rw [h205]; decide) (by rw [h205]; decide) (by rw [h205]; decide) (by decide) ?_
            have b206 : (z46).toInt = 1 := by rw [h205]; decide
            refine lv_aload_n hx hb dX7_takeLine_137 rfl (lv_at hl 1 rfl) ?_
            refine lv_aload_n hx hb dX7_takeLine_138 rfl (lv_at hl 0 rfl) ?_
            refine hp_calli (hp_runV (As := [.ref (u22)]) (rest := []) hx hb hml hown hts (t_X7_takeWhere_1 l D cs B G  V66 n hP.1  (t) h_t (u22) hu24 ho76 h_q_tx h_q_ou h_q_nm (by omega) (by omega) (by omega) fx81 hu42 hu43 (by omega) ) hZ ho76 cv_X7_109 rfl rfl ⟨Nat.le_of_ble_eq_true rfl, Nat.le_of_ble_eq_true rfl⟩ rfl hl.1 rfl (Nat.le_of_ble_eq_true rfl) dX7_takeLine_139 ⟨(Nat.le_of_ble_eq_true rfl), (Nat.le_of_ble_eq_true rfl)⟩) hZ (fun r210 V207 n208 _ _ hw209 hZ => ?_)
            obtain ⟨rfl, hq211, ⟨z213, z214, z215, z216, z217, ho218, hi219, hi220, hi221⟩, ⟨z222, ho223⟩, lf224, hr212⟩ := hw209
            have hP := hP.trans hq211 (by intro g h; simp_all)
            have b225 := hq_rng z213
            have b226 := hq_rng z214
            have b227 := hq_rng z215
            have b228 := hq_rng z216
            have b229 := hq_rng z217
            have b230 := hq_rng z222
            have b231 := hq_rng r210
            refine lv_if_eq (tgt := 168) hx hb dX7_takeLine_142 (by decide) (fun c232 => ?_) (fun c232 => ?_)
            · have c232 : (r210).toInt = (0 : Int) := hq_eqi.mp c232
              refine lv_iconst (v := 0) hx hb dX7_takeLine_168 (by decide) ?_
              refine lv_istore_n (lv' := [(2, .int (0)), (1, .ref (u22)), (0, .ref (t))]) hx hb dX7_takeLine_169 rfl hl (by decide) rfl (fun ls hl => ?_)
              refine lv_goto (tgt := 278) hx hb dX7_takeLine_170 (by decide) ?_
              refine lv_aload_n hx hb dX7_takeLine_278 rfl (lv_at hl 2 rfl) ?_
              refine hp_get (v := .ref (q_ou)) hx hb hts hown hZ ho218 fl_X7_30 rfl dX7_takeLine_279 ?_
              refine lv_dup hx hb dX7_takeLine_282 rfl ?_
              have fx233 : V207 (q_ou) = some (.inr (0, [.ref (b_cn), .int (b_cs), .ref (b_vn), .ref (b_vc), .int (b_vs), .ref (b_ln), .int (b_ls)])) := (hq211.2 (q_ou) _ h_q_ou rfl).trans ((hq70.2 (q_ou) _ h_q_ou rfl).trans ((hq29.2 (q_ou) _ h_q_ou rfl).trans (ho_q_ou)))
              refine hp_get (v := .int (b_ls)) hx hb hts hown hZ fx233 fl_X7_94 rfl dX7_takeLine_283 ?_
              refine lv_iconst (v := 1) hx hb dX7_takeLine_286 (by decide) ?_
              refine lv_iadd hx hb dX7_takeLine_287 ?_
              refine lv_topi (fun y234 ey235 => ?_)
              obtain ⟨k236, hk237, b238, b239⟩ := hq_add (b_ls) (1)
              rw [← ey235] at hk237 b238 b239
              have hk237 : (y234).toInt = (b_ls).toInt + (1 : Int) + k236 * 4294967296 := hk237
              refine hp_put hx hb hts hown hZ fx233 fp_X7_94 rfl rfl (Nat.le_of_ble_eq_true rfl) dX7_takeLine_288 (fun V240 _ _ e241 o242 hZ => ?_)
              have e241 : V240 (q_ou) = some (.inr (0, [.ref (b_cn), .int (b_cs), .ref (b_vn), .ref (b_vc), .int (b_vs), .ref (b_ln), .int (y234)])) := e241
              have hP := hP.put h_q_ou e241 o242 (hq_c6 h_b_cn h_b_vn h_b_vc h_b_ln (show 0 ≤ (b_cs).toInt ∧ (b_cs).toInt ≤ 6 by omega) (show 0 ≤ (b_vs).toInt ∧ (b_vs).toInt ≤ 30 by omega) (show 0 ≤ (y234).toInt ∧ (y234).toInt ≤ 60 by omega)) rfl
              refine lv_iload_n hx hb dX7_takeLine_291 rfl (lv_at hl 0 rfl) ?_
              have fx243 : V240 (t) = some (.inr (7, [.int (z213), .int (z214), .ref (q_tx), .ref (q_ou), .int (z215), .int (z216), .int (z217), .ref (q_nm)])) := (o242 (t) (hq_tne h_t h_q_ou (by simp))).trans (ho218)
              exact hp_zret hx hb hr rfl hlocks hZ ⟨rfl, hP, ⟨z213, z214, z215, z216, z217, fx243, by omega, by omega, by omega⟩, ⟨y234, e241, by omega⟩, ⟨(by decide), fun h9 => absurd h9 (by decide)⟩⟩ dX7_takeLine_292
            · have c232 : ¬ (r210).toInt = (0 : Int) := fun h9 => c232 (hq_eqi.mpr h9)
              refine lv_aload_n hx hb dX7_takeLine_145 rfl (lv_at hl 1 rfl) ?_
              refine lv_aload_n hx hb dX7_takeLine_146 rfl (lv_at hl 0 rfl) ?_
              refine hp_calli (hp_runV (As := [.ref (u22)]) (rest := []) hx hb hml hown hts (t_X7_takeSlot_1 l D cs B G  V207 n hP.1  (t) h_t (u22) hu24 ho218 h_q_tx h_q_ou h_q_nm (by omega) (by omega) (by omega) ho223 hu42 hu43 (by omega) ) hZ ho218 cv_X7_113 rfl rfl ⟨Nat.le_of_ble_eq_true rfl, Nat.le_of_ble_eq_true rfl⟩ rfl hl.1 rfl (Nat.le_of_ble_eq_true rfl) dX7_takeLine_147 ⟨(Nat.le_of_ble_eq_true rfl), (Nat.le_of_ble_eq_true rfl)⟩) hZ (fun r247 V244 n245 _ _ hw246 hZ => ?_)
              obtain ⟨rfl, hq248, ⟨z250, z251, z252, z253, z254, ho255, hi256, hi257, hi258⟩, ⟨z259, z260, ho261⟩, lf262, hr249⟩ := hw246
              have hP := hP.trans hq248 (by intro g h; simp_all)
              have b263 := hq_rng z250
              have b264 := hq_rng z251
              have b265 := hq_rng z252
              have b266 := hq_rng z253
              have b267 := hq_rng z254
              have b268 := hq_rng z259
              have b269 := hq_rng z260
              have b270 := hq_rng r247
              refine lv_if_eq (tgt := 168) hx hb dX7_takeLine_150 (by decide) (fun c271 => ?_) (fun c271 => ?_)
              · have c271 : (r247).toInt = (0 : Int) := hq_eqi.mp c271
                refine lv_iconst (v := 0) hx hb dX7_takeLine_168 (by decide) ?_
                refine lv_istore_n (lv' := [(2, .int (0)), (1, .ref (u22)), (0, .ref (t))]) hx hb dX7_takeLine_169 rfl hl (by decide) rfl (fun ls hl => ?_)
                refine lv_goto (tgt := 278) hx hb dX7_takeLine_170 (by decide) ?_
                refine lv_aload_n hx hb dX7_takeLine_278 rfl (lv_at hl 2 rfl) ?_
                refine hp_get (v := .ref (q_ou)) hx hb hts hown hZ ho255 fl_X7_30 rfl dX7_takeLine_279 ?_
                refine lv_dup hx hb dX7_takeLine_282 rfl ?_
                have fx272 : V244 (q_ou) = some (.inr (0, [.ref (b_cn), .int (b_cs), .ref (b_vn), .ref (b_vc), .int (b_vs), .ref (b_ln), .int (b_ls)])) := (hq248.2 (q_ou) _ h_q_ou rfl).trans ((hq211.2 (q_ou) _ h_q_ou rfl).trans ((hq70.2 (q_ou) _ h_q_ou rfl).trans ((hq29.2 (q_ou) _ h_q_ou rfl).trans (ho_q_ou))))
                refine hp_get (v := .int (b_ls)) hx hb hts hown hZ fx272 fl_X7_94 rfl dX7_takeLine_283 ?_
                refine lv_iconst (v := 1) hx hb dX7_takeLine_286 (by decide) ?_
                refine lv_iadd hx hb dX7_takeLine_287 ?_
                refine lv_topi (fun y273 ey274 => ?_)
                obtain ⟨k275, hk276, b277, b278⟩ := hq_add (b_ls) (1)
                rw [← ey274] at hk276 b277 b278
                have hk276 : (y273).toInt = (b_ls).toInt + (1 : Int) + k275 * 4294967296 := hk276
                refine hp_put hx hb hts hown hZ fx272 fp_X7_94 rfl rfl (Nat.le_of_ble_eq_true rfl) dX7_takeLine_288 (fun V279 _ _ e280 o281 hZ => ?_)
                have e280 : V279 (q_ou) = some (.inr (0, [.ref (b_cn), .int (b_cs), .ref (b_vn), .ref (b_vc), .int (b_vs), .ref (b_ln), .int (y273)])) := e280
                have hP := hP.put h_q_ou e280 o281 (hq_c6 h_b_cn h_b_vn h_b_vc h_b_ln (show 0 ≤ (b_cs).toInt ∧ (b_cs).toInt ≤ 6 by omega) (show 0 ≤ (b_vs).toInt ∧ (b_vs).toInt ≤ 30 by omega) (show 0 ≤ (y273).toInt ∧ (y273).toInt ≤ 60 by omega)) rfl
                refine lv_iload_n hx hb dX7_takeLine_291 rfl (lv_at hl 0 rfl) ?_
                have fx282 : V279 (t) = some (.inr (7, [.int (z250), .int (z251), .ref (q_tx), .ref (q_ou), .int (z252), .int (z253), .int (z254), .ref (q_nm)])) := (o281 (t) (hq_tne h_t h_q_ou (by simp))).trans (ho255)
                exact hp_zret hx hb hr rfl hlocks hZ ⟨rfl, hP, ⟨z250, z251, z252, z253, z254, fx282, by omega, by omega, by omega⟩, ⟨y273, e280, by omega⟩, ⟨(by decide), fun h9 => absurd h9 (by decide)⟩⟩ dX7_takeLine_292
              · have c271 : ¬ (r247).toInt = (0 : Int) := fun h9 => c271 (hq_eqi.mpr h9)
                refine lv_aload_n hx hb dX7_takeLine_153 rfl (lv_at hl 1 rfl) ?_
                refine lv_aload_n hx hb dX7_takeLine_154 rfl (lv_at hl 0 rfl) ?_
                refine hp_get (v := .ref (u40)) hx hb hts hown hZ ho261 fl_X7_119 rfl dX7_takeLine_155 ?_
                refine hp_calli (hp_runV (As := [.ref (u40)]) (rest := []) hx hb hml hown hts (t_X7_takeLetters_1 l D cs B G  V244 n hP.1  (t) h_t (u40) hu42 ho255 h_q_tx h_q_ou h_q_nm (by omega) (by omega) (by omega) ) hZ ho255 cv_X7_122 rfl rfl ⟨Nat.le_of_ble_eq_true rfl, Nat.le_of_ble_eq_true rfl⟩ rfl hl.1 rfl (Nat.le_of_ble_eq_true rfl) dX7_takeLine_158 ⟨(Nat.le_of_ble_eq_true rfl), (Nat.le_of_ble_eq_true rfl)⟩) hZ (fun r286 V283 n284 _ _ hw285 hZ => ?_)
                obtain ⟨rfl, hq287, ⟨z289, z290, z291, z292, z293, ho294, hi295, hi296, hi297⟩, hr288⟩ := hw285
                have hP := hP.trans hq287 (by intro g h; simp_all)
                have b298 := hq_rng z289
                have b299 := hq_rng z290
                have b300 := hq_rng z291
                have b301 := hq_rng z292
                have b302 := hq_rng z293
                have b303 := hq_rng r286
                refine lv_if_eq (tgt := 168) hx hb dX7_takeLine_161 (by decide) (fun c304 => ?_) (fun c304 => ?_)
                · have c304 : (r286).toInt = (0 : Int) := hq_eqi.mp c304
                  refine lv_iconst (v := 0) hx hb dX7_takeLine_168 (by decide) ?_
                  refine lv_istore_n (lv' := [(2, .int (0)), (1, .ref (u22)), (0, .ref (t))]) hx hb dX7_takeLine_169 rfl hl (by decide) rfl (fun ls hl => ?_)
                  refine lv_goto (tgt := 278) hx hb dX7_takeLine_170 (by decide) ?_
                  refine lv_aload_n hx hb dX7_takeLine_278 rfl (lv_at hl 2 rfl) ?_
                  refine hp_get (v := .ref (q_ou)) hx hb hts hown hZ ho294 fl_X7_30 rfl dX7_takeLine_279 ?_
                  refine lv_dup hx hb dX7_takeLine_282 rfl ?_
                  have fx305 : V283 (q_ou) = some (.inr (0, [.ref (b_cn), .int (b_cs), .ref (b_vn), .ref (b_vc), .int (b_vs), .ref (b_ln), .int (b_ls)])) := (hq287.2 (q_ou) _ h_q_ou rfl).trans ((hq248.2 (q_ou) _ h_q_ou rfl).trans ((hq211.2 (q_ou) _ h_q_ou rfl).trans ((hq70.2 (q_ou) _ h_q_ou rfl).trans ((hq29.2 (q_ou) _ h_q_ou rfl).trans (ho_q_ou)))))
                  refine hp_get (v := .int (b_ls)) hx hb hts hown hZ fx305 fl_X7_94 rfl dX7_takeLine_283 ?_
                  refine lv_iconst (v := 1) hx hb dX7_takeLine_286 (by decide) ?_
                  refine lv_iadd hx hb dX7_takeLine_287 ?_
                  refine lv_topi (fun y306 ey307 => ?_)
                  obtain ⟨k308, hk309, b310, b311⟩ := hq_add (b_ls) (1)
                  rw [← ey307] at hk309 b310 b311
                  have hk309 : (y306).toInt = (b_ls).toInt + (1 : Int) + k308 * 4294967296 := hk309
                  refine hp_put hx hb hts hown hZ fx305 fp_X7_94 rfl rfl (Nat.le_of_ble_eq_true rfl) dX7_takeLine_288 (fun V312 _ _ e313 o314 hZ => ?_)
                  have e313 : V312 (q_ou) = some (.inr (0, [.ref (b_cn), .int (b_cs), .ref (b_vn), .ref (b_vc), .int (b_vs), .ref (b_ln), .int (y306)])) := e313
                  have hP := hP.put h_q_ou e313 o314 (hq_c6 h_b_cn h_b_vn h_b_vc h_b_ln (show 0 ≤ (b_cs).toInt ∧ (b_cs).toInt ≤ 6 by omega) (show 0 ≤ (b_vs).toInt ∧ (b_vs).toInt ≤ 30 by omega) (show 0 ≤ (y306).toInt ∧ (y306).toInt ≤ 60 by omega)) rfl
                  refine lv_iload_n hx hb dX7_takeLine_291 rfl (lv_at hl 0 rfl) ?_
                  have fx315 : V312 (t) = some (.inr (7, [.int (z289), .int (z290), .ref (q_tx), .ref (q_ou), .int (z291), .int (z292), .int (z293), .ref (q_nm)])) := (o314 (t) (hq_tne h_t h_q_ou (by simp))).trans (ho294)
                  exact hp_zret hx hb hr rfl hlocks hZ ⟨rfl, hP, ⟨z289, z290, z291, z292, z293, fx315, by omega, by omega, by omega⟩, ⟨y306, e313, by omega⟩, ⟨(by decide), fun h9 => absurd h9 (by decide)⟩⟩ dX7_takeLine_292
                · have c304 : ¬ (r286).toInt = (0 : Int) := fun h9 => c304 (hq_eqi.mpr h9)
                  refine lv_iconst (v := 1) hx hb dX7_takeLine_164 (by decide) ?_
                  refine lv_goto (tgt := 169) hx hb dX7_takeLine_165 (by decide) ?_
                  refine lv_istore_n (lv' := [(2, .int (1)), (1, .ref (u22)), (0, .ref (t))]) hx hb dX7_takeLine_169 rfl hl (by decide) rfl (fun ls hl => ?_)
                  refine lv_goto (tgt := 278) hx hb dX7_takeLine_170 (by decide) ?_
                  refine lv_aload_n hx hb dX7_takeLine_278 rfl (lv_at hl 2 rfl) ?_
                  refine hp_get (v := .ref (q_ou)) hx hb hts hown hZ ho294 fl_X7_30 rfl dX7_takeLine_279 ?_
                  refine lv_dup hx hb dX7_takeLine_282 rfl ?_
                  have fx316 : V283 (q_ou) = some (.inr (0, [.ref (b_cn), .int (b_cs), .ref (b_vn), .ref (b_vc), .int (b_vs), .ref (b_ln), .int (b_ls)])) := (hq287.2 (q_ou) _ h_q_ou rfl).trans ((hq248.2 (q_ou) _ h_q_ou rfl).trans ((hq211.2 (q_ou) _ h_q_ou rfl).trans ((hq70.2 (q_ou) _ h_q_ou rfl).trans ((hq29.2 (q_ou) _ h_q_ou rfl).trans (ho_q_ou)))))
                  refine hp_get (v := .int (b_ls)) hx hb hts hown hZ fx316 fl_X7_94 rfl dX7_takeLine_283 ?_
                  refine lv_iconst (v := 1) hx hb dX7_takeLine_286 (by decide) ?_
                  refine lv_iadd hx hb dX7_takeLine_287 ?_
                  refine lv_topi (fun y317 ey318 => ?_)
                  obtain ⟨k319, hk320, b321, b322⟩ := hq_add (b_ls) (1)
                  rw [← ey318] at hk320 b321 b322
                  have hk320 : (y317).toInt = (b_ls).toInt + (1 : Int) + k319 * 4294967296 := hk320
                  refine hp_put hx hb hts hown hZ fx316 fp_X7_94 rfl rfl (Nat.le_of_ble_eq_true rfl) dX7_takeLine_288 (fun V323 _ _ e324 o325 hZ => ?_)
                  have e324 : V323 (q_ou) = some (.inr (0, [.ref (b_cn), .int (b_cs), .ref (b_vn), .ref (b_vc), .int (b_vs), .ref (b_ln), .int (y317)])) := e324
                  have hP := hP.put h_q_ou e324 o325 (hq_c6 h_b_cn h_b_vn h_b_vc h_b_ln (show 0 ≤ (b_cs).toInt ∧ (b_cs).toInt ≤ 6 by omega) (show 0 ≤ (b_vs).toInt ∧ (b_vs).toInt ≤ 30 by omega) (show 0 ≤ (y317).toInt ∧ (y317).toInt ≤ 60 by omega)) rfl
                  refine lv_iload_n hx hb dX7_takeLine_291 rfl (lv_at hl 0 rfl) ?_
                  have fx326 : V323 (t) = some (.inr (7, [.int (z289), .int (z290), .ref (q_tx), .ref (q_ou), .int (z291), .int (z292), .int (z293), .ref (q_nm)])) := (o325 (t) (hq_tne h_t h_q_ou (by simp))).trans (ho294)
                  have fx327 : V323 (u22) = some (.inr (5, [.int (z46), .int (z222), .int (z259), .int (z260), .int (z50), .int (z51), .int (z52), .int (z53), .ref (u40), .ref (u41)])) := (o325 (u22) (hq_tne hu24 h_q_ou (by simp))).trans ((hq287.2 (u22) _ hu24 rfl).trans (ho261))
                  exact hp_zret hx hb hr rfl hlocks hZ ⟨rfl, hP, ⟨z289, z290, z291, z292, z293, fx326, by omega, by omega, by omega⟩, ⟨y317, e324, by omega⟩, ⟨(by decide), fun _ hJ => hq_J.add hI h_q_ou hJ ho_q_ou e324 (by omega) (by omega) (by omega) eV18 (fun x t hx hg => hP.2 x t hx (by simp [hg])) hx23 fx327 (fun x9 hx9 hne9 => (o325 x9 (hq_tne hx9 h_q_ou (by simp))).trans ((hq287.2 x9 _ hx9 rfl).trans ((lf262 x9 hx9 hne9).trans ((lf224 x9 hx9 hne9).trans ((hq70.2 x9 _ hx9 rfl).trans (lf57 x9 hx9 hne9)))))) (fun h9 => by omega)⟩⟩ dX7_takeLine_292
          ·
            rcases Classical.em (z46 = 2) with h328 | h328
            · refine lv_tableIn (off := 102) (tgt := 173) hx hb dX7_takeLine_71 (by rw [h328]; decide) (by rw [h328]; decide) (by rw [h328]; decide) (by decide) ?_
              have b329 : (z46).toInt = 2 := by rw [h328]; decide
              refine lv_aload_n hx hb dX7_takeLine_173 rfl (lv_at hl 1 rfl) ?_
              refine lv_aload_n hx hb dX7_takeLine_174 rfl (lv_at hl 0 rfl) ?_
              refine hp_calli (hp_runV (As := [.ref (u22)]) (rest := []) hx hb hml hown hts (t_X7_takeChange_1 l D cs B G  V66 n hP.1  (t) h_t (u22) hu24 ho76 h_q_tx h_q_ou h_q_nm (by omega) (by omega) (by omega) ) hZ ho76 cv_X7_116 rfl rfl ⟨Nat.le_of_ble_eq_true rfl, Nat.le_of_ble_eq_true rfl⟩ rfl hl.1 rfl (Nat.le_of_ble_eq_true rfl) dX7_takeLine_175 ⟨(Nat.le_of_ble_eq_true rfl), (Nat.le_of_ble_eq_true rfl)⟩) hZ (fun r333 V330 n331 _ _ hw332 hZ => ?_)
              obtain ⟨rfl, hq334, ⟨z336, z337, z338, z339, z340, ho341, hi342, hi343, hi344⟩, hr335⟩ := hw332
              have hP := hP.trans hq334 (by intro g h; simp_all)
              have b345 := hq_rng z336
              have b346 := hq_rng z337
              have b347 := hq_rng z338
              have b348 := hq_rng z339
              have b349 := hq_rng z340
              have b350 := hq_rng r333
              refine lv_if_eq (tgt := 193) hx hb dX7_takeLine_178 (by decide) (fun c351 => ?_) (fun c351 => ?_)
              · have c351 : (r333).toInt = (0 : Int) := hq_eqi.mp c351
                refine lv_iconst (v := 0) hx hb dX7_takeLine_193 (by decide) ?_
                refine lv_istore_n (lv' := [(2, .int (0)), (1, .ref (u22)), (0, .ref (t))]) hx hb dX7_takeLine_194 rfl hl (by decide) rfl (fun ls hl => ?_)
                refine lv_goto (tgt := 278) hx hb dX7_takeLine_195 (by decide) ?_
                refine lv_aload_n hx hb dX7_takeLine_278 rfl (lv_at hl 2 rfl) ?_
                refine hp_get (v := .ref (q_ou)) hx hb hts hown hZ ho341 fl_X7_30 rfl dX7_takeLine_279 ?_
                refine lv_dup hx hb dX7_takeLine_282 rfl ?_
                have fx352 : V330 (q_ou) = some (.inr (0, [.ref (b_cn), .int (b_cs), .ref (b_vn), .ref (b_vc), .int (b_vs), .ref (b_ln), .int (b_ls)])) := (hq334.2 (q_ou) _ h_q_ou rfl).trans ((hq70.2 (q_ou) _ h_q_ou rfl).trans ((hq29.2 (q_ou) _ h_q_ou rfl).trans (ho_q_ou)))
                refine hp_get (v := .int (b_ls)) hx hb hts hown hZ fx352 fl_X7_94 rfl dX7_takeLine_283 ?_
                refine lv_iconst (v := 1) hx hb dX7_takeLine_286 (by decide) ?_
                refine lv_iadd hx hb dX7_takeLine_287 ?_
                refine lv_topi (fun y353 ey354 => ?_)
                obtain ⟨k355, hk356, b357, b358⟩ := hq_add (b_ls) (1)
                rw [← ey354] at hk356 b357 b358
                have hk356 : (y353).toInt = (b_ls).toInt + (1 : Int) + k355 * 4294967296 := hk356
                refine hp_put hx hb hts hown hZ fx352 fp_X7_94 rfl rfl (Nat.le_of_ble_eq_true rfl) dX7_takeLine_288 (fun V359 _ _ e360 o361 hZ => ?_)
                have e360 : V359 (q_ou) = some (.inr (0, [.ref (b_cn), .int (b_cs), .ref (b_vn), .ref (b_vc), .int (b_vs), .ref (b_ln), .int (y353)])) := e360
                have hP := hP.put h_q_ou e360 o361 (hq_c6 h_b_cn h_b_vn h_b_vc h_b_ln (show 0 ≤ (b_cs).toInt ∧ (b_cs).toInt ≤ 6 by omega) (show 0 ≤ (b_vs).toInt ∧ (b_vs).toInt ≤ 30 by omega) (show 0 ≤ (y353).toInt ∧ (y353).toInt ≤ 60 by omega)) rfl
                refine lv_iload_n hx hb dX7_takeLine_291 rfl (lv_at hl 0 rfl) ?_
                have fx362 : V359 (t) = some (.inr (7, [.int (z336), .int (z337), .ref (q_tx), .ref (q_ou), .int (z338), .int (z339), .int (z340), .ref (q_nm)])) := (o361 (t) (hq_tne h_t h_q_ou (by simp))).trans (ho341)
                exact hp_zret hx hb hr rfl hlocks hZ ⟨rfl, hP, ⟨z336, z337, z338, z339, z340, fx362, by omega, by omega, by omega⟩, ⟨y353, e360, by omega⟩, ⟨(by decide), fun h9 => absurd h9 (by decide)⟩⟩ dX7_takeLine_292
              · have c351 : ¬ (r333).toInt = (0 : Int) := fun h9 => c351 (hq_eqi.mpr h9)
                refine lv_aload_n hx hb dX7_takeLine_181 rfl (lv_at hl 1 rfl) ?_
                refine lv_aload_n hx hb dX7_takeLine_182 rfl (lv_at hl 0 rfl) ?_
                have fx378 : V330 (u22) = some (.inr (5, [.int (z46), .int (z47), .int (z48), .int (z49), .int (z50), .int (z51), .int (z52), .int (z53), .ref (u40), .ref (u41)])) := (hq334.2 (u22) _ hu24 rfl).trans (fx81)
                refine hp_calli (hp_runV (As := [.ref (u22)]) (rest := []) hx hb hml hown hts (t_X7_takeLast_1 l D cs B G  V330 n hP.1  (t) h_t (u22) hu24 ho341 h_q_tx h_q_ou h_q_nm (by omega) (by omega) (by omega) fx378 hu42 hu43 (by omega) ) hZ ho341 cv_X7_126 rfl rfl ⟨Nat.le_of_ble_eq_true rfl, Nat.le_of_ble_eq_true rfl⟩ rfl hl.1 rfl (Nat.le_of_ble_eq_true rfl) dX7_takeLine_183 ⟨(Nat.le_of_ble_eq_true rfl), (Nat.le_of_ble_eq_true rfl)⟩) hZ (fun r366 V363 n364 _ _ hw365 hZ => ?_)
                obtain ⟨rfl, hq367, ⟨z369, z370, z371, z372, z373, ho374, hi375, hi376, hi377⟩, ⟨z379, ho380⟩, lf381, hr368⟩ := hw365
                have hP := hP.trans hq367 (by intro g h; simp_all)
                have b382 := hq_rng z369
                have b383 := hq_rng z370
                have b384 := hq_rng z371
                have b385 := hq_rng z372
                have b386 := hq_rng z373
                have b387 := hq_rng z379
                have b388 := hq_rng r366
                refine lv_if_eq (tgt := 193) hx hb dX7_takeLine_186 (by decide) (fun c389 => ?_) (fun c389 => ?_)
                · have c389 : (r366).toInt = (0 : Int) := hq_eqi.mp c389
                  refine lv_iconst (v := 0) hx hb dX7_takeLine_193 (by decide) ?_
                  refine lv_istore_n (lv' := [(2, .int (0)), (1, .ref (u22)), (0, .ref (t))]) hx hb dX7_takeLine_194 rfl hl (by decide) rfl (fun ls hl => ?_)
                  refine lv_goto (tgt := 278) hx hb dX7_takeLine_195 (by decide) ?_
                  refine lv_aload_n hx hb dX7_takeLine_278 rfl (lv_at hl 2 rfl) ?_
                  refine hp_get (v := .ref (q_ou)) hx hb hts hown hZ ho374 fl_X7_30 rfl dX7_takeLine_279 ?_
                  refine lv_dup hx hb dX7_takeLine_282 rfl ?_
                  have fx390 : V363 (q_ou) = some (.inr (0, [.ref (b_cn), .int (b_cs), .ref (b_vn), .ref (b_vc), .int (b_vs), .ref (b_ln), .int (b_ls)])) := (hq367.2 (q_ou) _ h_q_ou rfl).trans ((hq334.2 (q_ou) _ h_q_ou rfl).trans ((hq70.2 (q_ou) _ h_q_ou rfl).trans ((hq29.2 (q_ou) _ h_q_ou rfl).trans (ho_q_ou))))
                  refine hp_get (v := .int (b_ls)) hx hb hts hown hZ fx390 fl_X7_94 rfl dX7_takeLine_283 ?_
                  refine lv_iconst (v := 1) hx hb dX7_takeLine_286 (by decide) ?_
                  refine lv_iadd hx hb dX7_takeLine_287 ?_
                  refine lv_topi (fun y391 ey392 => ?_)
                  obtain ⟨k393, hk394, b395, b396⟩ := hq_add (b_ls) (1)
                  rw [← ey392] at hk394 b395 b396
                  have hk394 : (y391).toInt = (b_ls).toInt + (1 : Int) + k393 * 4294967296 := hk394
                  refine hp_put hx hb hts hown hZ fx390 fp_X7_94 rfl rfl (Nat.le_of_ble_eq_true rfl) dX7_takeLine_288 (fun V397 _ _ e398 o399 hZ => ?_)
                  have e398 : V397 (q_ou) = some (.inr (0, [.ref (b_cn), .int (b_cs), .ref (b_vn), .ref (b_vc), .int (b_vs), .ref (b_ln), .int (y391)])) := e398
                  have hP := hP.put h_q_ou e398 o399 (hq_c6 h_b_cn h_b_vn h_b_vc h_b_ln (show 0 ≤ (b_cs).toInt ∧ (b_cs).toInt ≤ 6 by omega) (show 0 ≤ (b_vs).toInt ∧ (b_vs).toInt ≤ 30 by omega) (show 0 ≤ (y391).toInt ∧ (y391).toInt ≤ 60 by omega)) rfl
                  refine lv_iload_n hx hb dX7_takeLine_291 rfl (lv_at hl 0 rfl) ?_
                  have fx400 : V397 (t) = some (.inr (7, [.int (z369), .int (z370), .ref (q_tx), .ref (q_ou), .int (z371), .int (z372), .int (z373), .ref (q_nm)])) := (o399 (t) (hq_tne h_t h_q_ou (by simp))).trans (ho374)
                  exact hp_zret hx hb hr rfl hlocks hZ ⟨rfl, hP, ⟨z369, z370, z371, z372, z373, fx400, by omega, by omega, by omega⟩, ⟨y391, e398, by omega⟩, ⟨(by decide), fun h9 => absurd h9 (by decide)⟩⟩ dX7_takeLine_292
                · have c389 : ¬ (r366).toInt = (0 : Int) := fun h9 => c389 (hq_eqi.mpr h9)
                  refine lv_iconst (v := 1) hx hb dX7_takeLine_189 (by decide) ?_
                  refine lv_goto (tgt := 194) hx hb dX7_takeLine_190 (by decide) ?_
                  refine lv_istore_n (lv' := [(2, .int (1)), (1, .ref (u22)), (0, .ref (t))]) hx hb dX7_takeLine_194 rfl hl (by decide) rfl (fun ls hl => ?_)
                  refine lv_goto (tgt := 278) hx hb dX7_takeLine_195 (by decide) ?_
                  refine lv_aload_n hx hb dX7_takeLine_278 rfl (lv_at hl 2 rfl) ?_
                  refine hp_get (v := .ref (q_ou)) hx hb hts hown hZ ho374 fl_X7_30 rfl dX7_takeLine_279 ?_
                  refine lv_dup hx hb dX7_takeLine_282 rfl ?_
                  have fx401 : V363 (q_ou) = some (.inr (0, [.ref (b_cn), .int (b_cs), .ref (b_vn), .ref (b_vc), .int (b_vs), .ref (b_ln), .int (b_ls)])) := (hq367.2 (q_ou) _ h_q_ou rfl).trans ((hq334.2 (q_ou) _ h_q_ou rfl).trans ((hq70.2 (q_ou) _ h_q_ou rfl).trans ((hq29.2 (q_ou) _ h_q_ou rfl).trans (ho_q_ou))))
                  refine hp_get (v := .int (b_ls)) hx hb hts hown hZ fx401 fl_X7_94 rfl dX7_takeLine_283 ?_
                  refine lv_iconst (v := 1) hx hb dX7_takeLine_286 (by decide) ?_
                  refine lv_iadd hx hb dX7_takeLine_287 ?_
                  refine lv_topi (fun y402 ey403 => ?_)
                  obtain ⟨k404, hk405, b406, b407⟩ := hq_add (b_ls) (1)
                  rw [← ey403] at hk405 b406 b407
                  have hk405 : (y402).toInt = (b_ls).toInt + (1 : Int) + k404 * 4294967296 := hk405
                  refine hp_put hx hb hts hown hZ fx401 fp_X7_94 rfl rfl (Nat.le_of_ble_eq_true rfl) dX7_takeLine_288 (fun V408 _ _ e409 o410 hZ => ?_)
                  have e409 : V408 (q_ou) = some (.inr (0, [.ref (b_cn), .int (b_cs), .ref (b_vn), .ref (b_vc), .int (b_vs), .ref (b_ln), .int (y402)])) := e409
                  have hP := hP.put h_q_ou e409 o410 (hq_c6 h_b_cn h_b_vn h_b_vc h_b_ln (show 0 ≤ (b_cs).toInt ∧ (b_cs).toInt ≤ 6 by omega) (show 0 ≤ (b_vs).toInt ∧ (b_vs).toInt ≤ 30 by omega) (show 0 ≤ (y402).toInt ∧ (y402).toInt ≤ 60 by omega)) rfl
                  refine lv_iload_n hx hb dX7_takeLine_291 rfl (lv_at hl 0 rfl) ?_
                  have fx411 : V408 (t) = some (.inr (7, [.int (z369), .int (z370), .ref (q_tx), .ref (q_ou), .int (z371), .int (z372), .int (z373), .ref (q_nm)])) := (o410 (t) (hq_tne h_t h_q_ou (by simp))).trans (ho374)
                  have fx412 : V408 (u22) = some (.inr (5, [.int (z46), .int (z47), .int (z48), .int (z49), .int (z50), .int (z51), .int (z52), .int (z379), .ref (u40), .ref (u41)])) := (o410 (u22) (hq_tne hu24 h_q_ou (by simp))).trans (ho380)
                  exact hp_zret hx hb hr rfl hlocks hZ ⟨rfl, hP, ⟨z369, z370, z371, z372, z373, fx411, by omega, by omega, by omega⟩, ⟨y402, e409, by omega⟩, ⟨(by decide), fun _ hJ => hq_J.add hI h_q_ou hJ ho_q_ou e409 (by omega) (by omega) (by omega) eV18 (fun x t hx hg => hP.2 x t hx (by simp [hg])) hx23 fx412 (fun x9 hx9 hne9 => (o410 x9 (hq_tne hx9 h_q_ou (by simp))).trans ((lf381 x9 hx9 hne9).trans ((hq334.2 x9 _ hx9 rfl).trans ((hq70.2 x9 _ hx9 rfl).trans (lf57 x9 hx9 hne9))))) (fun h9 => by omega)⟩⟩ dX7_takeLine_292
            ·
              rcases Classical.em (z46 = 3) with h413 | h413
              · refine lv_tableIn (off := 127) (tgt := 198) hx hb dX7_takeLine_71 (by rw [h413]; decide) (by rw [h413]; decide) (by rw [h413]; decide) (by decide) ?_
                have b414 : (z46).toInt = 3 := by rw [h413]; decide
                refine lv_aload_n hx hb dX7_takeLine_198 rfl (lv_at hl 1 rfl) ?_
                refine lv_aload_n hx hb dX7_takeLine_199 rfl (lv_at hl 0 rfl) ?_
                refine hp_calli (hp_runV (As := [.ref (u22)]) (rest := []) hx hb hml hown hts (t_X7_takeWhere_1 l D cs B G  V66 n hP.1  (t) h_t (u22) hu24 ho76 h_q_tx h_q_ou h_q_nm (by omega) (by omega) (by omega) fx81 hu42 hu43 (by omega) ) hZ ho76 cv_X7_109 rfl rfl ⟨Nat.le_of_ble_eq_true rfl, Nat.le_of_ble_eq_true rfl⟩ rfl hl.1 rfl (Nat.le_of_ble_eq_true rfl) dX7_takeLine_200 ⟨(Nat.le_of_ble_eq_true rfl), (Nat.le_of_ble_eq_true rfl)⟩) hZ (fun r418 V415 n416 _ _ hw417 hZ => ?_)
                obtain ⟨rfl, hq419, ⟨z421, z422, z423, z424, z425, ho426, hi427, hi428, hi429⟩, ⟨z430, ho431⟩, lf432, hr420⟩ := hw417
                have hP := hP.trans hq419 (by intro g h; simp_all)
                have b433 := hq_rng z421
                have b434 := hq_rng z422
                have b435 := hq_rng z423
                have b436 := hq_rng z424
                have b437 := hq_rng z425
                have b438 := hq_rng z430
                have b439 := hq_rng r418
                refine lv_if_eq (tgt := 218) hx hb dX7_takeLine_203 (by decide) (fun c440 => ?_) (fun c440 => ?_)
                · have c440 : (r418).toInt = (0 : Int) := hq_eqi.mp c440
                  refine lv_iconst (v := 0) hx hb dX7_takeLine_218 (by decide) ?_
                  refine lv_istore_n (lv' := [(2, .int (0)), (1, .ref (u22)), (0, .ref (t))]) hx hb dX7_takeLine_219 rfl hl (by decide) rfl (fun ls hl => ?_)
                  refine lv_goto (tgt := 278) hx hb dX7_takeLine_220 (by decide) ?_
                  refine lv_aload_n hx hb dX7_takeLine_278 rfl (lv_at hl 2 rfl) ?_
                  refine hp_get (v := .ref (q_ou)) hx hb hts hown hZ ho426 fl_X7_30 rfl dX7_takeLine_279 ?_
                  refine lv_dup hx hb dX7_takeLine_282 rfl ?_
                  have fx441 : V415 (q_ou) = some (.inr (0, [.ref (b_cn), .int (b_cs), .ref (b_vn), .ref (b_vc), .int (b_vs), .ref (b_ln), .int (b_ls)])) := (hq419.2 (q_ou) _ h_q_ou rfl).trans ((hq70.2 (q_ou) _ h_q_ou rfl).trans ((hq29.2 (q_ou) _ h_q_ou rfl).trans (ho_q_ou)))
                  refine hp_get (v := .int (b_ls)) hx hb hts hown hZ fx441 fl_X7_94 rfl dX7_takeLine_283 ?_
                  refine lv_iconst (v := 1) hx hb dX7_takeLine_286 (by decide) ?_
                  refine lv_iadd hx hb dX7_takeLine_287 ?_
                  refine lv_topi (fun y442 ey443 => ?_)
                  obtain ⟨k444, hk445, b446, b447⟩ := hq_add (b_ls) (1)
                  rw [← ey443] at hk445 b446 b447
                  have hk445 : (y442).toInt = (b_ls).toInt + (1 : Int) + k444 * 4294967296 := hk445
                  refine hp_put hx hb hts hown hZ fx441 fp_X7_94 rfl rfl (Nat.le_of_ble_eq_true rfl) dX7_takeLine_288 (fun V448 _ _ e449 o450 hZ => ?_)
                  have e449 : V448 (q_ou) = some (.inr (0, [.ref (b_cn), .int (b_cs), .ref (b_vn), .ref (b_vc), .int (b_vs), .ref (b_ln), .int (y442)])) := e449
                  have hP := hP.put h_q_ou e449 o450 (hq_c6 h_b_cn h_b_vn h_b_vc h_b_ln (show 0 ≤ (b_cs).toInt ∧ (b_cs).toInt ≤ 6 by omega) (show 0 ≤ (b_vs).toInt ∧ (b_vs).toInt ≤ 30 by omega) (show 0 ≤ (y442).toInt ∧ (y442).toInt ≤ 60 by omega)) rfl
                  refine lv_iload_n hx hb dX7_takeLine_291 rfl (lv_at hl 0 rfl) ?_
                  have fx451 : V448 (t) = some (.inr (7, [.int (z421), .int (z422), .ref (q_tx), .ref (q_ou), .int (z423), .int (z424), .int (z425), .ref (q_nm)])) := (o450 (t) (hq_tne h_t h_q_ou (by simp))).trans (ho426)
                  exact hp_zret hx hb hr rfl hlocks hZ ⟨rfl, hP, ⟨z421, z422, z423, z424, z425, fx451, by omega, by omega, by omega⟩, ⟨y442, e449, by omega⟩, ⟨(by decide), fun h9 => absurd h9 (by decide)⟩⟩ dX7_takeLine_292
                · have c440 : ¬ (r418).toInt = (0 : Int) := fun h9 => c440 (hq_eqi.mpr h9)
                  refine lv_aload_n hx hb dX7_takeLine_206 rfl (lv_at hl 1 rfl) ?_
                  refine lv_aload_n hx hb dX7_takeLine_207 rfl (lv_at hl 0 rfl) ?_
                  refine hp_calli (hp_runV (As := [.ref (u22)]) (rest := []) hx hb hml hown hts (t_X7_takeCompound_1 l D cs B G  V415 n hP.1  (t) h_t (u22) hu24 ho426 h_q_tx h_q_ou h_q_nm (by omega) (by omega) (by omega) ho431 hu42 hu43 (by omega) ) hZ ho426 cv_X7_129 rfl rfl ⟨Nat.le_of_ble_eq_true rfl, Nat.le_of_ble_eq_true rfl⟩ rfl hl.1 rfl (Nat.le_of_ble_eq_true rfl) dX7_takeLine_208 ⟨(Nat.le_of_ble_eq_true rfl), (Nat.le_of_ble_eq_true rfl)⟩) hZ (fun r455 V452 n453 _ _ hw454 hZ => ?_)
                  obtain ⟨rfl, hq456, ⟨z458, z459, z460, z461, z462, ho463, hi464, hi465, hi466⟩, ⟨z467, z468, z469, z470, ho471, hi472, hi473⟩, lf474, hr457⟩ := hw454
                  have hP := hP.trans hq456 (by intro g h; simp_all)
                  have b475 := hq_rng z458
                  have b476 := hq_rng z459
                  have b477 := hq_rng z460
                  have b478 := hq_rng z461
                  have b479 := hq_rng z462
                  have b480 := hq_rng z467
                  have b481 := hq_rng z468
                  have b482 := hq_rng z469
                  have b483 := hq_rng z470
                  have b484 := hq_rng r455
                  refine lv_if_eq (tgt := 218) hx hb dX7_takeLine_211 (by decide) (fun c485 => ?_) (fun c485 => ?_)
                  · have c485 : (r455).toInt = (0 : Int) := hq_eqi.mp c485
                    refine lv_iconst (v := 0) hx hb dX7_takeLine_218 (by decide) ?_
                    refine lv_istore_n (lv' := [(2, .int (0)), (1, .ref (u22)), (0, .ref (t))]) hx hb dX7_takeLine_219 rfl hl (by decide) rfl (fun ls hl => ?_)
                    refine lv_goto (tgt := 278) hx hb dX7_takeLine_220 (by decide) ?_
                    refine lv_aload_n hx hb dX7_takeLine_278 rfl (lv_at hl 2 rfl) ?_
                    refine hp_get (v := .ref (q_ou)) hx hb hts hown hZ ho463 fl_X7_30 rfl dX7_takeLine_279 ?_
                    refine lv_dup hx hb dX7_takeLine_282 rfl ?_
                    have fx486 : V452 (q_ou) = some (.inr (0, [.ref (b_cn), .int (b_cs), .ref (b_vn), .ref (b_vc), .int (b_vs), .ref (b_ln), .int (b_ls)])) := (hq456.2 (q_ou) _ h_q_ou rfl).trans ((hq419.2 (q_ou) _ h_q_ou rfl).trans ((hq70.2 (q_ou) _ h_q_ou rfl).trans ((hq29.2 (q_ou) _ h_q_ou rfl).trans (ho_q_ou))))
                    refine hp_get (v := .int (b_ls)) hx hb hts hown hZ fx486 fl_X7_94 rfl dX7_takeLine_283 ?_
                    refine lv_iconst (v := 1) hx hb dX7_takeLine_286 (by decide) ?_
                    refine lv_iadd hx hb dX7_takeLine_287 ?_
                    refine lv_topi (fun y487 ey488 => ?_)
                    obtain ⟨k489, hk490, b491, b492⟩ := hq_add (b_ls) (1)
                    rw [← ey488] at hk490 b491 b492
                    have hk490 : (y487).toInt = (b_ls).toInt + (1 : Int) + k489 * 4294967296 := hk490
                    refine hp_put hx hb hts hown hZ fx486 fp_X7_94 rfl rfl (Nat.le_of_ble_eq_true rfl) dX7_takeLine_288 (fun V493 _ _ e494 o495 hZ => ?_)
                    have e494 : V493 (q_ou) = some (.inr (0, [.ref (b_cn), .int (b_cs), .ref (b_vn), .ref (b_vc), .int (b_vs), .ref (b_ln), .int (y487)])) := e494
                    have hP := hP.put h_q_ou e494 o495 (hq_c6 h_b_cn h_b_vn h_b_vc h_b_ln (show 0 ≤ (b_cs).toInt ∧ (b_cs).toInt ≤ 6 by omega) (show 0 ≤ (b_vs).toInt ∧ (b_vs).toInt ≤ 30 by omega) (show 0 ≤ (y487).toInt ∧ (y487).toInt ≤ 60 by omega)) rfl
                    refine lv_iload_n hx hb dX7_takeLine_291 rfl (lv_at hl 0 rfl) ?_
                    have fx496 : V493 (t) = some (.inr (7, [.int (z458), .int (z459), .ref (q_tx), .ref (q_ou), .int (z460), .int (z461), .int (z462), .ref (q_nm)])) := (o495 (t) (hq_tne h_t h_q_ou (by simp))).trans (ho463)
                    exact hp_zret hx hb hr rfl hlocks hZ ⟨rfl, hP, ⟨z458, z459, z460, z461, z462, fx496, by omega, by omega, by omega⟩, ⟨y487, e494, by omega⟩, ⟨(by decide), fun h9 => absurd h9 (by decide)⟩⟩ dX7_takeLine_292
                  · have c485 : ¬ (r455).toInt = (0 : Int) := fun h9 => c485 (hq_eqi.mpr h9)
                    refine lv_iconst (v := 1) hx hb dX7_takeLine_214 (by decide) ?_
                    refine lv_goto (tgt := 219) hx hb dX7_takeLine_215 (by decide) ?_
                    refine lv_istore_n (lv' := [(2, .int (1)), (1, .ref (u22)), (0, .ref (t))]) hx hb dX7_takeLine_219 rfl hl (by decide) rfl (fun ls hl => ?_)
                    refine lv_goto (tgt := 278) hx hb dX7_takeLine_220 (by decide) ?_
                    refine lv_aload_n hx hb dX7_takeLine_278 rfl (lv_at hl 2 rfl) ?_
                    refine hp_get (v := .ref (q_ou)) hx hb hts hown hZ ho463 fl_X7_30 rfl dX7_takeLine_279 ?_
                    refine lv_dup hx hb dX7_takeLine_282 rfl ?_
                    have fx497 : V452 (q_ou) = some (.inr (0, [.ref (b_cn), .int (b_cs), .ref (b_vn), .ref (b_vc), .int (b_vs), .ref (b_ln), .int (b_ls)])) := (hq456.2 (q_ou) _ h_q_ou rfl).trans ((hq419.2 (q_ou) _ h_q_ou rfl).trans ((hq70.2 (q_ou) _ h_q_ou rfl).trans ((hq29.2 (q_ou) _ h_q_ou rfl).trans (ho_q_ou))))
                    refine hp_get (v := .int (b_ls)) hx hb hts hown hZ fx497 fl_X7_94 rfl dX7_takeLine_283 ?_
                    refine lv_iconst (v := 1) hx hb dX7_takeLine_286 (by decide) ?_
                    refine lv_iadd hx hb dX7_takeLine_287 ?_
                    refine lv_topi (fun y498 ey499 => ?_)
                    obtain ⟨k500, hk501, b502, b503⟩ := hq_add (b_ls) (1)
                    rw [← ey499] at hk501 b502 b503
                    have hk501 : (y498).toInt = (b_ls).toInt + (1 : Int) + k500 * 4294967296 := hk501
                    refine hp_put hx hb hts hown hZ fx497 fp_X7_94 rfl rfl (Nat.le_of_ble_eq_true rfl) dX7_takeLine_288 (fun V504 _ _ e505 o506 hZ => ?_)
                    have e505 : V504 (q_ou) = some (.inr (0, [.ref (b_cn), .int (b_cs), .ref (b_vn), .ref (b_vc), .int (b_vs), .ref (b_ln), .int (y498)])) := e505
                    have hP := hP.put h_q_ou e505 o506 (hq_c6 h_b_cn h_b_vn h_b_vc h_b_ln (show 0 ≤ (b_cs).toInt ∧ (b_cs).toInt ≤ 6 by omega) (show 0 ≤ (b_vs).toInt ∧ (b_vs).toInt ≤ 30 by omega) (show 0 ≤ (y498).toInt ∧ (y498).toInt ≤ 60 by omega)) rfl
                    refine lv_iload_n hx hb dX7_takeLine_291 rfl (lv_at hl 0 rfl) ?_
                    have fx507 : V504 (t) = some (.inr (7, [.int (z458), .int (z459), .ref (q_tx), .ref (q_ou), .int (z460), .int (z461), .int (z462), .ref (q_nm)])) := (o506 (t) (hq_tne h_t h_q_ou (by simp))).trans (ho463)
                    have fx508 : V504 (u22) = some (.inr (5, [.int (z46), .int (z430), .int (z467), .int (z49), .int (z468), .int (z469), .int (z470), .int (z53), .ref (u40), .ref (u41)])) := (o506 (u22) (hq_tne hu24 h_q_ou (by simp))).trans (ho471)
                    exact hp_zret hx hb hr rfl hlocks hZ ⟨rfl, hP, ⟨z458, z459, z460, z461, z462, fx507, by omega, by omega, by omega⟩, ⟨y498, e505, by omega⟩, ⟨(by decide), fun _ hJ => hq_J.add hI h_q_ou hJ ho_q_ou e505 (by omega) (by omega) (by omega) eV18 (fun x t hx hg => hP.2 x t hx (by simp [hg])) hx23 fx508 (fun x9 hx9 hne9 => (o506 x9 (hq_tne hx9 h_q_ou (by simp))).trans ((lf474 x9 hx9 hne9).trans ((lf432 x9 hx9 hne9).trans ((hq70.2 x9 _ hx9 rfl).trans (lf57 x9 hx9 hne9))))) (fun h9 => by omega)⟩⟩ dX7_takeLine_292
              ·
                rcases Classical.em (z46 = 4) with h509 | h509
                · refine lv_tableIn (off := 152) (tgt := 223) hx hb dX7_takeLine_71 (by rw [h509]; decide) (by rw [h509]; decide) (by rw [h509]; decide) (by decide) ?_
                  have b510 : (z46).toInt = 4 := by rw [h509]; decide
                  refine lv_aload_n hx hb dX7_takeLine_223 rfl (lv_at hl 1 rfl) ?_
                  refine lv_aload_n hx hb dX7_takeLine_224 rfl (lv_at hl 0 rfl) ?_
                  refine hp_calli (hp_runV (As := [.ref (u22)]) (rest := []) hx hb hml hown hts (t_X7_takeOwner_1 l D cs B G  V66 n hP.1  (t) h_t (u22) hu24 ho76 h_q_tx h_q_ou h_q_nm (by omega) (by omega) (by omega) fx81 hu42 hu43 (by omega) ) hZ ho76 cv_X7_132 rfl rfl ⟨Nat.le_of_ble_eq_true rfl, Nat.le_of_ble_eq_true rfl⟩ rfl hl.1 rfl (Nat.le_of_ble_eq_true rfl) dX7_takeLine_225 ⟨(Nat.le_of_ble_eq_true rfl), (Nat.le_of_ble_eq_true rfl)⟩) hZ (fun r514 V511 n512 _ _ hw513 hZ => ?_)
                  obtain ⟨rfl, hq515, ⟨z517, z518, z519, z520, z521, ho522, hi523, hi524, hi525⟩, ⟨z526, ho527⟩, lf528, hr516⟩ := hw513
                  have hP := hP.trans hq515 (by intro g h; simp_all)
                  have b529 := hq_rng z517
                  have b530 := hq_rng z518
                  have b531 := hq_rng z519
                  have b532 := hq_rng z520
                  have b533 := hq_rng z521
                  have b534 := hq_rng z526
                  have b535 := hq_rng r514
                  refine lv_if_eq (tgt := 251) hx hb dX7_takeLine_228 (by decide) (fun c536 => ?_) (fun c536 => ?_)
                  · have c536 : (r514).toInt = (0 : Int) := hq_eqi.mp c536
                    refine lv_iconst (v := 0) hx hb dX7_takeLine_251 (by decide) ?_
                    refine lv_istore_n (lv' := [(2, .int (0)), (1, .ref (u22)), (0, .ref (t))]) hx hb dX7_takeLine_252 rfl hl (by decide) rfl (fun ls hl => ?_)
                    refine lv_goto (tgt := 278) hx hb dX7_takeLine_253 (by decide) ?_
                    refine lv_aload_n hx hb dX7_takeLine_278 rfl (lv_at hl 2 rfl) ?_
                    refine hp_get (v := .ref (q_ou)) hx hb hts hown hZ ho522 fl_X7_30 rfl dX7_takeLine_279 ?_
                    refine lv_dup hx hb dX7_takeLine_282 rfl ?_
                    have fx537 : V511 (q_ou) = some (.inr (0, [.ref (b_cn), .int (b_cs), .ref (b_vn), .ref (b_vc), .int (b_vs), .ref (b_ln), .int (b_ls)])) := (hq515.2 (q_ou) _ h_q_ou rfl).trans ((hq70.2 (q_ou) _ h_q_ou rfl).trans ((hq29.2 (q_ou) _ h_q_ou rfl).trans (ho_q_ou)))
                    refine hp_get (v := .int (b_ls)) hx hb hts hown hZ fx537 fl_X7_94 rfl dX7_takeLine_283 ?_
                    refine lv_iconst (v := 1) hx hb dX7_takeLine_286 (by decide) ?_
                    refine lv_iadd hx hb dX7_takeLine_287 ?_
                    refine lv_topi (fun y538 ey539 => ?_)
                    obtain ⟨k540, hk541, b542, b543⟩ := hq_add (b_ls) (1)
                    rw [← ey539] at hk541 b542 b543
                    have hk541 : (y538).toInt = (b_ls).toInt + (1 : Int) + k540 * 4294967296 := hk541
                    refine hp_put hx hb hts hown hZ fx537 fp_X7_94 rfl rfl (Nat.le_of_ble_eq_true rfl) dX7_takeLine_288 (fun V544 _ _ e545 o546 hZ => ?_)
                    have e545 : V544 (q_ou) = some (.inr (0, [.ref (b_cn), .int (b_cs), .ref (b_vn), .ref (b_vc), .int (b_vs), .ref (b_ln), .int (y538)])) := e545
                    have hP := hP.put h_q_ou e545 o546 (hq_c6 h_b_cn h_b_vn h_b_vc h_b_ln (show 0 ≤ (b_cs).toInt ∧ (b_cs).toInt ≤ 6 by omega) (show 0 ≤ (b_vs).toInt ∧ (b_vs).toInt ≤ 30 by omega) (show 0 ≤ (y538).toInt ∧ (y538).toInt ≤ 60 by omega)) rfl
                    refine lv_iload_n hx hb dX7_takeLine_291 rfl (lv_at hl 0 rfl) ?_
                    have fx547 : V544 (t) = some (.inr (7, [.int (z517), .int (z518), .ref (q_tx), .ref (q_ou), .int (z519), .int (z520), .int (z521), .ref (q_nm)])) := (o546 (t) (hq_tne h_t h_q_ou (by simp))).trans (ho522)
                    exact hp_zret hx hb hr rfl hlocks hZ ⟨rfl, hP, ⟨z517, z518, z519, z520, z521, fx547, by omega, by omega, by omega⟩, ⟨y538, e545, by omega⟩, ⟨(by decide), fun h9 => absurd h9 (by decide)⟩⟩ dX7_takeLine_292
                  · have c536 : ¬ (r514).toInt = (0 : Int) := fun h9 => c536 (hq_eqi.mpr h9)
                    refine lv_aload_n hx hb dX7_takeLine_231 rfl (lv_at hl 1 rfl) ?_
                    refine lv_aload_n hx hb dX7_takeLine_232 rfl (lv_at hl 0 rfl) ?_
                    refine hp_calli (hp_runV (As := [.ref (u22)]) (rest := []) hx hb hml hown hts (t_X7_takeSlot_1 l D cs B G  V511 n hP.1  (t) h_t (u22) hu24 ho522 h_q_tx h_q_ou h_q_nm (by omega) (by omega) (by omega) ho527 hu42 hu43 (by omega) ) hZ ho522 cv_X7_113 rfl rfl ⟨Nat.le_of_ble_eq_true rfl, Nat.le_of_ble_eq_true rfl⟩ rfl hl.1 rfl (Nat.le_of_ble_eq_true rfl) dX7_takeLine_233 ⟨(Nat.le_of_ble_eq_true rfl), (Nat.le_of_ble_eq_true rfl)⟩) hZ (fun r551 V548 n549 _ _ hw550 hZ => ?_)
                    obtain ⟨rfl, hq552, ⟨z554, z555, z556, z557, z558, ho559, hi560, hi561, hi562⟩, ⟨z563, z564, ho565⟩, lf566, hr553⟩ := hw550
                    have hP := hP.trans hq552 (by intro g h; simp_all)
                    have b567 := hq_rng z554
                    have b568 := hq_rng z555
                    have b569 := hq_rng z556
                    have b570 := hq_rng z557
                    have b571 := hq_rng z558
                    have b572 := hq_rng z563
                    have b573 := hq_rng z564
                    have b574 := hq_rng r551
                    refine lv_if_eq (tgt := 251) hx hb dX7_takeLine_236 (by decide) (fun c575 => ?_) (fun c575 => ?_)
                    · have c575 : (r551).toInt = (0 : Int) := hq_eqi.mp c575
                      refine lv_iconst (v := 0) hx hb dX7_takeLine_251 (by decide) ?_
                      refine lv_istore_n (lv' := [(2, .int (0)), (1, .ref (u22)), (0, .ref (t))]) hx hb dX7_takeLine_252 rfl hl (by decide) rfl (fun ls hl => ?_)
                      refine lv_goto (tgt := 278) hx hb dX7_takeLine_253 (by decide) ?_
                      refine lv_aload_n hx hb dX7_takeLine_278 rfl (lv_at hl 2 rfl) ?_
                      refine hp_get (v := .ref (q_ou)) hx hb hts hown hZ ho559 fl_X7_30 rfl dX7_takeLine_279 ?_
                      refine lv_dup hx hb dX7_takeLine_282 rfl ?_
                      have fx576 : V548 (q_ou) = some (.inr (0, [.ref (b_cn), .int (b_cs), .ref (b_vn), .ref (b_vc), .int (b_vs), .ref (b_ln), .int (b_ls)])) := (hq552.2 (q_ou) _ h_q_ou rfl).trans ((hq515.2 (q_ou) _ h_q_ou rfl).trans ((hq70.2 (q_ou) _ h_q_ou rfl).trans ((hq29.2 (q_ou) _ h_q_ou rfl).trans (ho_q_ou))))
                      refine hp_get (v := .int (b_ls)) hx hb hts hown hZ fx576 fl_X7_94 rfl dX7_takeLine_283 ?_
                      refine lv_iconst (v := 1) hx hb dX7_takeLine_286 (by decide) ?_
                      refine lv_iadd hx hb dX7_takeLine_287 ?_
                      refine lv_topi (fun y577 ey578 => ?_)
                      obtain ⟨k579, hk580, b581, b582⟩ := hq_add (b_ls) (1)
                      rw [← ey578] at hk580 b581 b582
                      have hk580 : (y577).toInt = (b_ls).toInt + (1 : Int) + k579 * 4294967296 := hk580
                      refine hp_put hx hb hts hown hZ fx576 fp_X7_94 rfl rfl (Nat.le_of_ble_eq_true rfl) dX7_takeLine_288 (fun V583 _ _ e584 o585 hZ => ?_)
                      have e584 : V583 (q_ou) = some (.inr (0, [.ref (b_cn), .int (b_cs), .ref (b_vn), .ref (b_vc), .int (b_vs), .ref (b_ln), .int (y577)])) := e584
                      have hP := hP.put h_q_ou e584 o585 (hq_c6 h_b_cn h_b_vn h_b_vc h_b_ln (show 0 ≤ (b_cs).toInt ∧ (b_cs).toInt ≤ 6 by omega) (show 0 ≤ (b_vs).toInt ∧ (b_vs).toInt ≤ 30 by omega) (show 0 ≤ (y577).toInt ∧ (y577).toInt ≤ 60 by omega)) rfl
                      refine lv_iload_n hx hb dX7_takeLine_291 rfl (lv_at hl 0 rfl) ?_
                      have fx586 : V583 (t) = some (.inr (7, [.int (z554), .int (z555), .ref (q_tx), .ref (q_ou), .int (z556), .int (z557), .int (z558), .ref (q_nm)])) := (o585 (t) (hq_tne h_t h_q_ou (by simp))).trans (ho559)
                      exact hp_zret hx hb hr rfl hlocks hZ ⟨rfl, hP, ⟨z554, z555, z556, z557, z558, fx586, by omega, by omega, by omega⟩, ⟨y577, e584, by omega⟩, ⟨(by decide), fun h9 => absurd h9 (by decide)⟩⟩ dX7_takeLine_292
                    · have c575 : ¬ (r551).toInt = (0 : Int) := fun h9 => c575 (hq_eqi.mpr h9)
                      refine lv_aload_n hx hb dX7_takeLine_239 rfl (lv_at hl 1 rfl) ?_
                      refine lv_aload_n hx hb dX7_takeLine_240 rfl (lv_at hl 0 rfl) ?_
                      refine hp_calli (hp_runV (As := [.ref (u22)]) (rest := []) hx hb hml hown hts (t_X7_takeExcepted_1 l D cs B G  V548 n hP.1  (t) h_t (u22) hu24 ho559 h_q_tx h_q_ou h_q_nm (by omega) (by omega) (by omega) ) hZ ho559 cv_X7_135 rfl rfl ⟨Nat.le_of_ble_eq_true rfl, Nat.le_of_ble_eq_true rfl⟩ rfl hl.1 rfl (Nat.le_of_ble_eq_true rfl) dX7_takeLine_241 ⟨(Nat.le_of_ble_eq_true rfl), (Nat.le_of_ble_eq_true rfl)⟩) hZ (fun r590 V587 n588 _ _ hw589 hZ => ?_)
                      obtain ⟨rfl, hq591, ⟨z593, z594, z595, z596, z597, ho598, hi599, hi600, hi601⟩, hr592⟩ := hw589
                      have hP := hP.trans hq591 (by intro g h; simp_all)
                      have b602 := hq_rng z593
                      have b603 := hq_rng z594
                      have b604 := hq_rng z595
                      have b605 := hq_rng z596
                      have b606 := hq_rng z597
                      have b607 := hq_rng r590
                      refine lv_if_eq (tgt := 251) hx hb dX7_takeLine_244 (by decide) (fun c608 => ?_) (fun c608 => ?_)
                      · have c608 : (r590).toInt = (0 : Int) := hq_eqi.mp c608
                        refine lv_iconst (v := 0) hx hb dX7_takeLine_251 (by decide) ?_
                        refine lv_istore_n (lv' := [(2, .int (0)), (1, .ref (u22)), (0, .ref (t))]) hx hb dX7_takeLine_252 rfl hl (by decide) rfl (fun ls hl => ?_)
                        refine lv_goto (tgt := 278) hx hb dX7_takeLine_253 (by decide) ?_
                        refine lv_aload_n hx hb dX7_takeLine_278 rfl (lv_at hl 2 rfl) ?_
                        refine hp_get (v := .ref (q_ou)) hx hb hts hown hZ ho598 fl_X7_30 rfl dX7_takeLine_279 ?_
                        refine lv_dup hx hb dX7_takeLine_282 rfl ?_
                        have fx609 : V587 (q_ou) = some (.inr (0, [.ref (b_cn), .int (b_cs), .ref (b_vn), .ref (b_vc), .int (b_vs), .ref (b_ln), .int (b_ls)])) := (hq591.2 (q_ou) _ h_q_ou rfl).trans ((hq552.2 (q_ou) _ h_q_ou rfl).trans ((hq515.2 (q_ou) _ h_q_ou rfl).trans ((hq70.2 (q_ou) _ h_q_ou rfl).trans ((hq29.2 (q_ou) _ h_q_ou rfl).trans (ho_q_ou)))))
                        refine hp_get (v := .int (b_ls)) hx hb hts hown hZ fx609 fl_X7_94 rfl dX7_takeLine_283 ?_
                        refine lv_iconst (v := 1) hx hb dX7_takeLine_286 (by decide) ?_
                        refine lv_iadd hx hb dX7_takeLine_287 ?_
                        refine lv_topi (fun y610 ey611 => ?_)
                        obtain ⟨k612, hk613, b614, b615⟩ := hq_add (b_ls) (1)
                        rw [← ey611] at hk613 b614 b615
                        have hk613 : (y610).toInt = (b_ls).toInt + (1 : Int) + k612 * 4294967296 := hk613
                        refine hp_put hx hb hts hown hZ fx609 fp_X7_94 rfl rfl (Nat.le_of_ble_eq_true rfl) dX7_takeLine_288 (fun V616 _ _ e617 o618 hZ => ?_)
                        have e617 : V616 (q_ou) = some (.inr (0, [.ref (b_cn), .int (b_cs), .ref (b_vn), .ref (b_vc), .int (b_vs), .ref (b_ln), .int (y610)])) := e617
                        have hP := hP.put h_q_ou e617 o618 (hq_c6 h_b_cn h_b_vn h_b_vc h_b_ln (show 0 ≤ (b_cs).toInt ∧ (b_cs).toInt ≤ 6 by omega) (show 0 ≤ (b_vs).toInt ∧ (b_vs).toInt ≤ 30 by omega) (show 0 ≤ (y610).toInt ∧ (y610).toInt ≤ 60 by omega)) rfl
                        refine lv_iload_n hx hb dX7_takeLine_291 rfl (lv_at hl 0 rfl) ?_
                        have fx619 : V616 (t) = some (.inr (7, [.int (z593), .int (z594), .ref (q_tx), .ref (q_ou), .int (z595), .int (z596), .int (z597), .ref (q_nm)])) := (o618 (t) (hq_tne h_t h_q_ou (by simp))).trans (ho598)
                        exact hp_zret hx hb hr rfl hlocks hZ ⟨rfl, hP, ⟨z593, z594, z595, z596, z597, fx619, by omega, by omega, by omega⟩, ⟨y610, e617, by omega⟩, ⟨(by decide), fun h9 => absurd h9 (by decide)⟩⟩ dX7_takeLine_292
                      · have c608 : ¬ (r590).toInt = (0 : Int) := fun h9 => c608 (hq_eqi.mpr h9)
                        refine lv_iconst (v := 1) hx hb dX7_takeLine_247 (by decide) ?_
                        refine lv_goto (tgt := 252) hx hb dX7_takeLine_248 (by decide) ?_
                        refine lv_istore_n (lv' := [(2, .int (1)), (1, .ref (u22)), (0, .ref (t))]) hx hb dX7_takeLine_252 rfl hl (by decide) rfl (fun ls hl => ?_)
                        refine lv_goto (tgt := 278) hx hb dX7_takeLine_253 (by decide) ?_
                        refine lv_aload_n hx hb dX7_takeLine_278 rfl (lv_at hl 2 rfl) ?_
                        refine hp_get (v := .ref (q_ou)) hx hb hts hown hZ ho598 fl_X7_30 rfl dX7_takeLine_279 ?_
                        refine lv_dup hx hb dX7_takeLine_282 rfl ?_
                        have fx620 : V587 (q_ou) = some (.inr (0, [.ref (b_cn), .int (b_cs), .ref (b_vn), .ref (b_vc), .int (b_vs), .ref (b_ln), .int (b_ls)])) := (hq591.2 (q_ou) _ h_q_ou rfl).trans ((hq552.2 (q_ou) _ h_q_ou rfl).trans ((hq515.2 (q_ou) _ h_q_ou rfl).trans ((hq70.2 (q_ou) _ h_q_ou rfl).trans ((hq29.2 (q_ou) _ h_q_ou rfl).trans (ho_q_ou)))))
                        refine hp_get (v := .int (b_ls)) hx hb hts hown hZ fx620 fl_X7_94 rfl dX7_takeLine_283 ?_
                        refine lv_iconst (v := 1) hx hb dX7_takeLine_286 (by decide) ?_
                        refine lv_iadd hx hb dX7_takeLine_287 ?_
                        refine lv_topi (fun y621 ey622 => ?_)
                        obtain ⟨k623, hk624, b625, b626⟩ := hq_add (b_ls) (1)
                        rw [← ey622] at hk624 b625 b626
                        have hk624 : (y621).toInt = (b_ls).toInt + (1 : Int) + k623 * 4294967296 := hk624
                        refine hp_put hx hb hts hown hZ fx620 fp_X7_94 rfl rfl (Nat.le_of_ble_eq_true rfl) dX7_takeLine_288 (fun V627 _ _ e628 o629 hZ => ?_)
                        have e628 : V627 (q_ou) = some (.inr (0, [.ref (b_cn), .int (b_cs), .ref (b_vn), .ref (b_vc), .int (b_vs), .ref (b_ln), .int (y621)])) := e628
                        have hP := hP.put h_q_ou e628 o629 (hq_c6 h_b_cn h_b_vn h_b_vc h_b_ln (show 0 ≤ (b_cs).toInt ∧ (b_cs).toInt ≤ 6 by omega) (show 0 ≤ (b_vs).toInt ∧ (b_vs).toInt ≤ 30 by omega) (show 0 ≤ (y621).toInt ∧ (y621).toInt ≤ 60 by omega)) rfl
                        refine lv_iload_n hx hb dX7_takeLine_291 rfl (lv_at hl 0 rfl) ?_
                        have fx630 : V627 (t) = some (.inr (7, [.int (z593), .int (z594), .ref (q_tx), .ref (q_ou), .int (z595), .int (z596), .int (z597), .ref (q_nm)])) := (o629 (t) (hq_tne h_t h_q_ou (by simp))).trans (ho598)
                        have fx631 : V627 (u22) = some (.inr (5, [.int (z46), .int (z526), .int (z563), .int (z564), .int (z50), .int (z51), .int (z52), .int (z53), .ref (u40), .ref (u41)])) := (o629 (u22) (hq_tne hu24 h_q_ou (by simp))).trans ((hq591.2 (u22) _ hu24 rfl).trans (ho565))
                        exact hp_zret hx hb hr rfl hlocks hZ ⟨rfl, hP, ⟨z593, z594, z595, z596, z597, fx630, by omega, by omega, by omega⟩, ⟨y621, e628, by omega⟩, ⟨(by decide), fun _ hJ => hq_J.add hI h_q_ou hJ ho_q_ou e628 (by omega) (by omega) (by omega) eV18 (fun x t hx hg => hP.2 x t hx (by simp [hg])) hx23 fx631 (fun x9 hx9 hne9 => (o629 x9 (hq_tne hx9 h_q_ou (by simp))).trans ((hq591.2 x9 _ hx9 rfl).trans ((lf566 x9 hx9 hne9).trans ((lf528 x9 hx9 hne9).trans ((hq70.2 x9 _ hx9 rfl).trans (lf57 x9 hx9 hne9)))))) (fun h9 => by omega)⟩⟩ dX7_takeLine_292
                ·
                  have z632 : ¬ (z46).toInt = 0 := lv_neT h82 (by decide)
                  have z633 : ¬ (z46).toInt = 1 := lv_neT h205 (by decide)
                  have z634 : ¬ (z46).toInt = 2 := lv_neT h328 (by decide)
                  have z635 : ¬ (z46).toInt = 3 := lv_neT h413 (by decide)
                  have z636 : ¬ (z46).toInt = 4 := lv_neT h509 (by decide)
                  refine lv_tableOut (tgt := 256) hx hb dX7_takeLine_71 (by omega) (by decide) ?_
                  refine lv_aload_n hx hb dX7_takeLine_256 rfl (lv_at hl 1 rfl) ?_
                  refine lv_aload_n hx hb dX7_takeLine_257 rfl (lv_at hl 0 rfl) ?_
                  refine hp_calli (hp_runV (As := [.ref (u22)]) (rest := []) hx hb hml hown hts (t_X7_takeOwner_1 l D cs B G  V66 n hP.1  (t) h_t (u22) hu24 ho76 h_q_tx h_q_ou h_q_nm (by omega) (by omega) (by omega) fx81 hu42 hu43 (by omega) ) hZ ho76 cv_X7_132 rfl rfl ⟨Nat.le_of_ble_eq_true rfl, Nat.le_of_ble_eq_true rfl⟩ rfl hl.1 rfl (Nat.le_of_ble_eq_true rfl) dX7_takeLine_258 ⟨(Nat.le_of_ble_eq_true rfl), (Nat.le_of_ble_eq_true rfl)⟩) hZ (fun r640 V637 n638 _ _ hw639 hZ => ?_)
                  obtain ⟨rfl, hq641, ⟨z643, z644, z645, z646, z647, ho648, hi649, hi650, hi651⟩, ⟨z652, ho653⟩, lf654, hr642⟩ := hw639
                  have hP := hP.trans hq641 (by intro g h; simp_all)
                  have b655 := hq_rng z643
                  have b656 := hq_rng z644
                  have b657 := hq_rng z645
                  have b658 := hq_rng z646
                  have b659 := hq_rng z647
                  have b660 := hq_rng z652
                  have b661 := hq_rng r640
                  refine lv_if_eq (tgt := 276) hx hb dX7_takeLine_261 (by decide) (fun c662 => ?_) (fun c662 => ?_)
                  · have c662 : (r640).toInt = (0 : Int) := hq_eqi.mp c662
                    refine lv_iconst (v := 0) hx hb dX7_takeLine_276 (by decide) ?_
                    refine lv_istore_n (lv' := [(2, .int (0)), (1, .ref (u22)), (0, .ref (t))]) hx hb dX7_takeLine_277 rfl hl (by decide) rfl (fun ls hl => ?_)
                    refine lv_aload_n hx hb dX7_takeLine_278 rfl (lv_at hl 2 rfl) ?_
                    refine hp_get (v := .ref (q_ou)) hx hb hts hown hZ ho648 fl_X7_30 rfl dX7_takeLine_279 ?_
                    refine lv_dup hx hb dX7_takeLine_282 rfl ?_
                    have fx663 : V637 (q_ou) = some (.inr (0, [.ref (b_cn), .int (b_cs), .ref (b_vn), .ref (b_vc), .int (b_vs), .ref (b_ln), .int (b_ls)])) := (hq641.2 (q_ou) _ h_q_ou rfl).trans ((hq70.2 (q_ou) _ h_q_ou rfl).trans ((hq29.2 (q_ou) _ h_q_ou rfl).trans (ho_q_ou)))
                    refine hp_get (v := .int (b_ls)) hx hb hts hown hZ fx663 fl_X7_94 rfl dX7_takeLine_283 ?_
                    refine lv_iconst (v := 1) hx hb dX7_takeLine_286 (by decide) ?_
                    refine lv_iadd hx hb dX7_takeLine_287 ?_
                    refine lv_topi (fun y664 ey665 => ?_)
                    obtain ⟨k666, hk667, b668, b669⟩ := hq_add (b_ls) (1)
                    rw [← ey665] at hk667 b668 b669
                    have hk667 : (y664).toInt = (b_ls).toInt + (1 : Int) + k666 * 4294967296 := hk667
                    refine hp_put hx hb hts hown hZ fx663 fp_X7_94 rfl rfl (Nat.le_of_ble_eq_true rfl) dX7_takeLine_288 (fun V670 _ _ e671 o672 hZ => ?_)
                    have e671 : V670 (q_ou) = some (.inr (0, [.ref (b_cn), .int (b_cs), .ref (b_vn), .ref (b_vc), .int (b_vs), .ref (b_ln), .int (y664)])) := e671
                    have hP := hP.put h_q_ou e671 o672 (hq_c6 h_b_cn h_b_vn h_b_vc h_b_ln (show 0 ≤ (b_cs).toInt ∧ (b_cs).toInt ≤ 6 by omega) (show 0 ≤ (b_vs).toInt ∧ (b_vs).toInt ≤ 30 by omega) (show 0 ≤ (y664).toInt ∧ (y664).toInt ≤ 60 by omega)) rfl
                    refine lv_iload_n hx hb dX7_takeLine_291 rfl (lv_at hl 0 rfl) ?_
                    have fx673 : V670 (t) = some (.inr (7, [.int (z643), .int (z644), .ref (q_tx), .ref (q_ou), .int (z645), .int (z646), .int (z647), .ref (q_nm)])) := (o672 (t) (hq_tne h_t h_q_ou (by simp))).trans (ho648)
                    exact hp_zret hx hb hr rfl hlocks hZ ⟨rfl, hP, ⟨z643, z644, z645, z646, z647, fx673, by omega, by omega, by omega⟩, ⟨y664, e671, by omega⟩, ⟨(by decide), fun h9 => absurd h9 (by decide)⟩⟩ dX7_takeLine_292
                  · have c662 : ¬ (r640).toInt = (0 : Int) := fun h9 => c662 (hq_eqi.mpr h9)
                    refine lv_aload_n hx hb dX7_takeLine_264 rfl (lv_at hl 1 rfl) ?_
                    refine lv_aload_n hx hb dX7_takeLine_265 rfl (lv_at hl 0 rfl) ?_
                    refine hp_calli (hp_runV (As := [.ref (u22)]) (rest := []) hx hb hml hown hts (t_X7_takeSlot_1 l D cs B G  V637 n hP.1  (t) h_t (u22) hu24 ho648 h_q_tx h_q_ou h_q_nm (by omega) (by omega) (by omega) ho653 hu42 hu43 (by omega) ) hZ ho648 cv_X7_113 rfl rfl ⟨Nat.le_of_ble_eq_true rfl, Nat.le_of_ble_eq_true rfl⟩ rfl hl.1 rfl (Nat.le_of_ble_eq_true rfl) dX7_takeLine_266 ⟨(Nat.le_of_ble_eq_true rfl), (Nat.le_of_ble_eq_true rfl)⟩) hZ (fun r677 V674 n675 _ _ hw676 hZ => ?_)
                    obtain ⟨rfl, hq678, ⟨z680, z681, z682, z683, z684, ho685, hi686, hi687, hi688⟩, ⟨z689, z690, ho691⟩, lf692, hr679⟩ := hw676
                    have hP := hP.trans hq678 (by intro g h; simp_all)
                    have b693 := hq_rng z680
                    have b694 := hq_rng z681
                    have b695 := hq_rng z682
                    have b696 := hq_rng z683
                    have b697 := hq_rng z684
                    have b698 := hq_rng z689
                    have b699 := hq_rng z690
                    have b700 := hq_rng r677
                    refine lv_if_eq (tgt := 276) hx hb dX7_takeLine_269 (by decide) (fun c701 => ?_) (fun c701 => ?_)
                    · have c701 : (r677).toInt = (0 : Int) := hq_eqi.mp c701
                      refine lv_iconst (v := 0) hx hb dX7_takeLine_276 (by decide) ?_
                      refine lv_istore_n (lv' := [(2, .int (0)), (1, .ref (u22)), (0, .ref (t))]) hx hb dX7_takeLine_277 rfl hl (by decide) rfl (fun ls hl => ?_)
                      refine lv_aload_n hx hb dX7_takeLine_278 rfl (lv_at hl 2 rfl) ?_
                      refine hp_get (v := .ref (q_ou)) hx hb hts hown hZ ho685 fl_X7_30 rfl dX7_takeLine_279 ?_
                      refine lv_dup hx hb dX7_takeLine_282 rfl ?_
                      have fx702 : V674 (q_ou) = some (.inr (0, [.ref (b_cn), .int (b_cs), .ref (b_vn), .ref (b_vc), .int (b_vs), .ref (b_ln), .int (b_ls)])) := (hq678.2 (q_ou) _ h_q_ou rfl).trans ((hq641.2 (q_ou) _ h_q_ou rfl).trans ((hq70.2 (q_ou) _ h_q_ou rfl).trans ((hq29.2 (q_ou) _ h_q_ou rfl).trans (ho_q_ou))))
                      refine hp_get (v := .int (b_ls)) hx hb hts hown hZ fx702 fl_X7_94 rfl dX7_takeLine_283 ?_
                      refine lv_iconst (v := 1) hx hb dX7_takeLine_286 (by decide) ?_
                      refine lv_iadd hx hb dX7_takeLine_287 ?_
                      refine lv_topi (fun y703 ey704 => ?_)
                      obtain ⟨k705, hk706, b707, b708⟩ := hq_add (b_ls) (1)
                      rw [← ey704] at hk706 b707 b708
                      have hk706 : (y703).toInt = (b_ls).toInt + (1 : Int) + k705 * 4294967296 := hk706
                      refine hp_put hx hb hts hown hZ fx702 fp_X7_94 rfl rfl (Nat.le_of_ble_eq_true rfl) dX7_takeLine_288 (fun V709 _ _ e710 o711 hZ => ?_)
                      have e710 : V709 (q_ou) = some (.inr (0, [.ref (b_cn), .int (b_cs), .ref (b_vn), .ref (b_vc), .int (b_vs), .ref (b_ln), .int (y703)])) := e710
                      have hP := hP.put h_q_ou e710 o711 (hq_c6 h_b_cn h_b_vn h_b_vc h_b_ln (show 0 ≤ (b_cs).toInt ∧ (b_cs).toInt ≤ 6 by omega) (show 0 ≤ (b_vs).toInt ∧ (b_vs).toInt ≤ 30 by omega) (show 0 ≤ (y703).toInt ∧ (y703).toInt ≤ 60 by omega)) rfl
                      refine lv_iload_n hx hb dX7_takeLine_291 rfl (lv_at hl 0 rfl) ?_
                      have fx712 : V709 (t) = some (.inr (7, [.int (z680), .int (z681), .ref (q_tx), .ref (q_ou), .int (z682), .int (z683), .int (z684), .ref (q_nm)])) := (o711 (t) (hq_tne h_t h_q_ou (by simp))).trans (ho685)
                      exact hp_zret hx hb hr rfl hlocks hZ ⟨rfl, hP, ⟨z680, z681, z682, z683, z684, fx712, by omega, by omega, by omega⟩, ⟨y703, e710, by omega⟩, ⟨(by decide), fun h9 => absurd h9 (by decide)⟩⟩ dX7_takeLine_292
                    · have c701 : ¬ (r677).toInt = (0 : Int) := fun h9 => c701 (hq_eqi.mpr h9)
                      refine lv_iconst (v := 1) hx hb dX7_takeLine_272 (by decide) ?_
                      refine lv_goto (tgt := 277) hx hb dX7_takeLine_273 (by decide) ?_
                      refine lv_istore_n (lv' := [(2, .int (1)), (1, .ref (u22)), (0, .ref (t))]) hx hb dX7_takeLine_277 rfl hl (by decide) rfl (fun ls hl => ?_)
                      refine lv_aload_n hx hb dX7_takeLine_278 rfl (lv_at hl 2 rfl) ?_
                      refine hp_get (v := .ref (q_ou)) hx hb hts hown hZ ho685 fl_X7_30 rfl dX7_takeLine_279 ?_
                      refine lv_dup hx hb dX7_takeLine_282 rfl ?_
                      have fx713 : V674 (q_ou) = some (.inr (0, [.ref (b_cn), .int (b_cs), .ref (b_vn), .ref (b_vc), .int (b_vs), .ref (b_ln), .int (b_ls)])) := (hq678.2 (q_ou) _ h_q_ou rfl).trans ((hq641.2 (q_ou) _ h_q_ou rfl).trans ((hq70.2 (q_ou) _ h_q_ou rfl).trans ((hq29.2 (q_ou) _ h_q_ou rfl).trans (ho_q_ou))))
                      refine hp_get (v := .int (b_ls)) hx hb hts hown hZ fx713 fl_X7_94 rfl dX7_takeLine_283 ?_
                      refine lv_iconst (v := 1) hx hb dX7_takeLine_286 (by decide) ?_
                      refine lv_iadd hx hb dX7_takeLine_287 ?_
                      refine lv_topi (fun y714 ey715 => ?_)
                      obtain ⟨k716, hk717, b718, b719⟩ := hq_add (b_ls) (1)
                      rw [← ey715] at hk717 b718 b719
                      have hk717 : (y714).toInt = (b_ls).toInt + (1 : Int) + k716 * 4294967296 := hk717
                      refine hp_put hx hb hts hown hZ fx713 fp_X7_94 rfl rfl (Nat.le_of_ble_eq_true rfl) dX7_takeLine_288 (fun V720 _ _ e721 o722 hZ => ?_)
                      have e721 : V720 (q_ou) = some (.inr (0, [.ref (b_cn), .int (b_cs), .ref (b_vn), .ref (b_vc), .int (b_vs), .ref (b_ln), .int (y714)])) := e721
                      have hP := hP.put h_q_ou e721 o722 (hq_c6 h_b_cn h_b_vn h_b_vc h_b_ln (show 0 ≤ (b_cs).toInt ∧ (b_cs).toInt ≤ 6 by omega) (show 0 ≤ (b_vs).toInt ∧ (b_vs).toInt ≤ 30 by omega) (show 0 ≤ (y714).toInt ∧ (y714).toInt ≤ 60 by omega)) rfl
                      refine lv_iload_n hx hb dX7_takeLine_291 rfl (lv_at hl 0 rfl) ?_
                      have fx723 : V720 (t) = some (.inr (7, [.int (z680), .int (z681), .ref (q_tx), .ref (q_ou), .int (z682), .int (z683), .int (z684), .ref (q_nm)])) := (o722 (t) (hq_tne h_t h_q_ou (by simp))).trans (ho685)
                      have fx724 : V720 (u22) = some (.inr (5, [.int (z46), .int (z652), .int (z689), .int (z690), .int (z50), .int (z51), .int (z52), .int (z53), .ref (u40), .ref (u41)])) := (o722 (u22) (hq_tne hu24 h_q_ou (by simp))).trans (ho691)
                      exact hp_zret hx hb hr rfl hlocks hZ ⟨rfl, hP, ⟨z680, z681, z682, z683, z684, fx723, by omega, by omega, by omega⟩, ⟨y714, e721, by omega⟩, ⟨(by decide), fun _ hJ => hq_J.add hI h_q_ou hJ ho_q_ou e721 (by omega) (by omega) (by omega) eV18 (fun x t hx hg => hP.2 x t hx (by simp [hg])) hx23 fx724 (fun x9 hx9 hne9 => (o722 x9 (hq_tne hx9 h_q_ou (by simp))).trans ((lf692 x9 hx9 hne9).trans ((lf654 x9 hx9 hne9).trans ((hq70.2 x9 _ hx9 rfl).trans (lf57 x9 hx9 hne9))))) (fun h9 => by omega)⟩⟩ dX7_takeLine_292
      · have c17 : ¬ (b_ls).toInt < (60 : Int) := fun h9 => c17 (hq_lti.mpr h9)
        refine lv_aload_n hx hb dX7_takeLine_33 rfl (lv_at hl 0 rfl) ?_
        refine lv_iconst (v := 4) hx hb dX7_takeLine_34 (by decide) ?_
        have hl734 : (4 : Int32).toInt = 4 := by decide
        refine hp_calli (hp_runV (As := [.int (4)]) (rest := []) hx hb hml hown hts (t_X7_refuse_1 l D cs B G  V n hP.1  (t) h_t (4) ho_t h_q_tx h_q_ou h_q_nm ) hZ ho_t cv_X7_65 rfl rfl ⟨Nat.le_of_ble_eq_true rfl, Nat.le_of_ble_eq_true rfl⟩ rfl hl.1 rfl (Nat.le_of_ble_eq_true rfl) dX7_takeLine_35 ⟨(Nat.le_of_ble_eq_true rfl), (Nat.le_of_ble_eq_true rfl)⟩) hZ (fun r728 V725 n726 _ _ hw727 hZ => ?_)
        obtain ⟨rfl, hq729, ⟨z731, z732, ho733⟩, hr730⟩ := hw727
        have hP := hP.trans hq729 (by intro g h; simp_all)
        have b735 := hq_rng z731
        have b736 := hq_rng z732
        have b737 := hq_rng r728
        have fx738 : V725 (q_ou) = some (.inr (0, [.ref (b_cn), .int (b_cs), .ref (b_vn), .ref (b_vc), .int (b_vs), .ref (b_ln), .int (b_ls)])) := (hq729.2 (q_ou) _ h_q_ou rfl).trans (ho_q_ou)
        exact hp_zret hx hb hr (hq_nzi (by omega) (by omega)) hlocks hZ ⟨rfl, hP, ⟨z731, z732, q_nx, q_tk, q_st, ho733, by omega, by omega, by omega⟩, ⟨b_ls, fx738, by omega⟩, ⟨(by omega), fun h9 => absurd h9 (by omega)⟩⟩ dX7_takeLine_38
    · have c16 : ¬ (q_tk).toInt ≤ (5 : Int) := fun h9 => c16 (hq_lei.mpr h9)
      refine lv_aload_n hx hb dX7_takeLine_15 rfl (lv_at hl 0 rfl) ?_
      refine lv_iconst (v := 1) hx hb dX7_takeLine_16 (by decide) ?_
      have hl748 : (1 : Int32).toInt = 1 := by decide
      refine hp_calli (hp_runV (As := [.int (1)]) (rest := []) hx hb hml hown hts (t_X7_refuse_1 l D cs B G  V n hP.1  (t) h_t (1) ho_t h_q_tx h_q_ou h_q_nm ) hZ ho_t cv_X7_65 rfl rfl ⟨Nat.le_of_ble_eq_true rfl, Nat.le_of_ble_eq_true rfl⟩ rfl hl.1 rfl (Nat.le_of_ble_eq_true rfl) dX7_takeLine_17 ⟨(Nat.le_of_ble_eq_true rfl), (Nat.le_of_ble_eq_true rfl)⟩) hZ (fun r742 V739 n740 _ _ hw741 hZ => ?_)
      obtain ⟨rfl, hq743, ⟨z745, z746, ho747⟩, hr744⟩ := hw741
      have hP := hP.trans hq743 (by intro g h; simp_all)
      have b749 := hq_rng z745
      have b750 := hq_rng z746
      have b751 := hq_rng r742
      have fx752 : V739 (q_ou) = some (.inr (0, [.ref (b_cn), .int (b_cs), .ref (b_vn), .ref (b_vc), .int (b_vs), .ref (b_ln), .int (b_ls)])) := (hq743.2 (q_ou) _ h_q_ou rfl).trans (ho_q_ou)
      exact hp_zret hx hb hr (hq_nzi (by omega) (by omega)) hlocks hZ ⟨rfl, hP, ⟨z745, z746, q_nx, q_tk, q_st, ho747, by omega, by omega, by omega⟩, ⟨b_ls, fx752, by omega⟩, ⟨(by omega), fun h9 => absurd h9 (by omega)⟩⟩ dX7_takeLine_20

set_option maxHeartbeats 4000000 in
set_option maxRecDepth 100000 in
theorem t_X7_parse_1 (l : Launch) (D : va_G) (cs : Nat → ClassId) (B : Nat) (G : hq_G) (V : hp_V) (n : Nat) (hI : hq_I cs G V) (t : Nat) (h_t : G t = some (10, 0, 0, 0)) (w : Nat) (h_w : G w = some (0, 4000, 0, 0)) (u : Nat) (h_u : G u = some (6, 1, 0, 0)) {q_nm : Nat} {q_fk q_fp q_nx q_tk q_st : Int32} {q_tx q_ou : Value} (ho_t : V t = some (.inr (7, [.int (q_fk), .int (q_fp), q_tx, q_ou, .int (q_nx), .int (q_tk), .int (q_st), .ref (q_nm)]))) (h_q_nm : G q_nm = some (0, 12, 0, 0)) {b_cn b_vn b_vc b_ln : Nat} {b_cs b_vs b_ls : Int32} (ho_u : V u = some (.inr (0, [.ref (b_cn), .int (b_cs), .ref (b_vn), .ref (b_vc), .int (b_vs), .ref (b_ln), .int (b_ls)]))) (h_b_cn : G b_cn = some (4, 7, 6, 0)) (h_b_vn : G b_vn = some (4, 7, 30, 0)) (h_b_vc : G b_vc = some (2, 3, 30, 0)) (h_b_ln : G b_ln = some (4, 6, 60, 1)) (hi_u0 : 0 ≤ b_cs.toInt ∧ b_cs.toInt ≤ 6) (hi_u1 : 0 ≤ b_vs.toInt ∧ b_vs.toInt ≤ 30) (hi_u2 : 0 ≤ b_ls.toInt ∧ b_ls.toInt ≤ 60) : hp_M l yX7_parse cX7_parse 5 (some .boolean) ({ frames := 10, cells := 0, slots := 0, locals := 219 }) D cs B V n [.ref (t), .ref (w), .ref (u)] (hp_QI D cs B (fun r V' n' => n = n' ∧ hq_P cs G (fun g => g.1 == 3 || g.1 == 4 || (g.1 == 20 && g.2 == 1) || (g.1 == 21 && g.2 == 1)) V V' ∧ (∃ (q_fk1 : Int32) (q_fp1 : Int32) (q_tx1 : Value) (q_ou1 : Value) (q_nx1 : Int32) (q_tk1 : Int32) (q_st1 : Int32), V' t = some (.inr (7, [.int (q_fk1), .int (q_fp1), q_tx1, q_ou1, .int (q_nx1), .int (q_tk1), .int (q_st1), .ref (q_nm)]))) ∧ (∃ (b_cs1 : Int32) (b_vs1 : Int32) (b_ls1 : Int32), V' u = some (.inr (0, [.ref (b_cn), .int (b_cs1), .ref (b_vn), .ref (b_vc), .int (b_vs1), .ref (b_ln), .int (b_ls1)])) ∧ (0 ≤ b_cs1.toInt ∧ b_cs1.toInt ≤ 6) ∧ (0 ≤ b_vs1.toInt ∧ b_vs1.toInt ≤ 30) ∧ (0 ≤ b_ls1.toInt ∧ b_ls1.toInt ≤ 60)) ∧ ((0 ≤ r.toInt ∧ r.toInt ≤ 1) ∧ hq_JW cs V' u r))) 0 0 := by
  refine hp_walk (R0 := RX7) (by decide) rfl ?_ (Nat.le_of_ble_eq_true rfl)
  intro p e s m below meth c ls hx hb hr hts hown hlocks hin hml hZ hl
  have hP : hq_P cs G (fun g => g.1 == 3 || g.1 == 4 || (g.1 == 20 && g.2 == 1) || (g.1 == 21 && g.2 == 1)) V V := hq_P.rf hI
  have hl : lv_has ls 5 [(0, .ref (t)), (1, .ref (w)), (2, .ref (u))] := hl
  have hb_q_fk := hq_rng q_fk
  have hb_q_fp := hq_rng q_fp
  have hb_q_nx := hq_rng q_nx
  have hb_q_tk := hq_rng q_tk
  have hb_q_st := hq_rng q_st
  have hb_b_cs := hq_rng b_cs
  have hb_b_vs := hq_rng b_vs
  have hb_b_ls := hq_rng b_ls
  refine lv_aload_n hx hb dX7_parse_0 rfl (lv_at hl 0 rfl) ?_
  refine lv_aload_n hx hb dX7_parse_1 rfl (lv_at hl 1 rfl) ?_
  refine hp_put hx hb hts hown hZ ho_t fp_X7_27 rfl rfl (Nat.le_of_ble_eq_true rfl) dX7_parse_2 (fun V1 _ _ e2 o3 hZ => ?_)
  have e2 : V1 (t) = some (.inr (7, [.int (q_fk), .int (q_fp), .ref (w), q_ou, .int (q_nx), .int (q_tk), .int (q_st), .ref (q_nm)])) := e2
  have hP := hP.put h_t e2 o3 (trivial) rfl
  refine lv_aload_n hx hb dX7_parse_5 rfl (lv_at hl 0 rfl) ?_
  refine lv_aload_n hx hb dX7_parse_6 rfl (lv_at hl 2 rfl) ?_
  refine hp_put hx hb hts hown hZ e2 fp_X7_30 rfl rfl (Nat.le_of_ble_eq_true rfl) dX7_parse_7 (fun V4 _ _ e5 o6 hZ => ?_)
  have e5 : V4 (t) = some (.inr (7, [.int (q_fk), .int (q_fp), .ref (w), .ref (u), .int (q_nx), .int (q_tk), .int (q_st), .ref (q_nm)])) := e5
  have hP := hP.put h_t e5 o6 (trivial) rfl
  refine lv_aload_n hx hb dX7_parse_10 rfl (lv_at hl 0 rfl) ?_
  refine hp_get (v := .ref (u)) hx hb hts hown hZ e5 fl_X7_30 rfl dX7_parse_11 ?_
  have fx13 : V4 (u) = some (.inr (0, [.ref (b_cn), .int (b_cs), .ref (b_vn), .ref (b_vc), .int (b_vs), .ref (b_ln), .int (b_ls)])) := (o6 (u) (hq_tne h_u h_t (by simp))).trans ((o3 (u) (hq_tne h_u h_t (by simp))).trans (ho_u))
  refine hp_callv (hp_runV (As := []) (rest := []) hx hb hml hown hts (t_X0_clear_1 l D cs B G  V4 n hP.1  (u) h_u fx13 h_b_cn h_b_vn h_b_vc h_b_ln (by omega) (by omega) (by omega) ) hZ fx13 cv_X7_34 rfl rfl ⟨Nat.le_of_ble_eq_true rfl, Nat.le_of_ble_eq_true rfl⟩ rfl hl.1 rfl (Nat.le_of_ble_eq_true rfl) dX7_parse_14 ⟨(Nat.le_of_ble_eq_true rfl), (Nat.le_of_ble_eq_true rfl)⟩) hZ (fun V7 n8 _ _ hw9 hZ => ?_)
  obtain ⟨rfl, hq11, ⟨z14, z15, z16, ho17, hi18, hi19, hi20, hi21⟩⟩ := hw9
  have hP := hP.trans hq11 (by intro g h; simp_all)
  have b22 := hq_rng z14
  have b23 := hq_rng z15
  have b24 := hq_rng z16
  refine lv_aload_n hx hb dX7_parse_17 rfl (lv_at hl 0 rfl) ?_
  refine lv_iconst (v := 0) hx hb dX7_parse_18 (by decide) ?_
  have fx25 : V7 (t) = some (.inr (7, [.int (q_fk), .int (q_fp), .ref (w), .ref (u), .int (q_nx), .int (q_tk), .int (q_st), .ref (q_nm)])) := (hq11.2 (t) _ h_t rfl).trans (e5)
  refine hp_put hx hb hts hown hZ fx25 fp_X7_9 rfl rfl (Nat.le_of_ble_eq_true rfl) dX7_parse_19 (fun V26 _ _ e27 o28 hZ => ?_)
  have e27 : V26 (t) = some (.inr (7, [.int (0), .int (q_fp), .ref (w), .ref (u), .int (q_nx), .int (q_tk), .int (q_st), .ref (q_nm)])) := e27
  have hP := hP.put h_t e27 o28 (trivial) rfl
  refine lv_aload_n hx hb dX7_parse_22 rfl (lv_at hl 0 rfl) ?_
  refine lv_iconst (v := -1) hx hb dX7_parse_23 (by decide) ?_
  refine hp_put hx hb hts hown hZ e27 fp_X7_15 rfl rfl (Nat.le_of_ble_eq_true rfl) dX7_parse_24 (fun V29 _ _ e30 o31 hZ => ?_)
  have e30 : V29 (t) = some (.inr (7, [.int (0), .int (-1), .ref (w), .ref (u), .int (q_nx), .int (q_tk), .int (q_st), .ref (q_nm)])) := e30
  have hP := hP.put h_t e30 o31 (trivial) rfl
  refine lv_aload_n hx hb dX7_parse_27 rfl (lv_at hl 0 rfl) ?_
  refine lv_iconst (v := 0) hx hb dX7_parse_28 (by decide) ?_
  refine hp_put hx hb hts hown hZ e30 fp_X7_39 rfl rfl (Nat.le_of_ble_eq_true rfl) dX7_parse_29 (fun V32 _ _ e33 o34 hZ => ?_)
  have e33 : V32 (t) = some (.inr (7, [.int (0), .int (-1), .ref (w), .ref (u), .int (0), .int (q_tk), .int (q_st), .ref (q_nm)])) := e33
  have hP := hP.put h_t e33 o34 (trivial) rfl
  refine lv_aload_n hx hb dX7_parse_32 rfl (lv_at hl 0 rfl) ?_
  have hl41 : (0 : Int32).toInt = 0 := by decide
  have hl42 : (-1 : Int32).toInt = -1 := by decide
  have hl43 : (0 : Int32).toInt = 0 := by decide
  refine hp_callv (hp_runV (As := []) (rest := []) hx hb hml hown hts (t_X7_step_1 l D cs B G  V32 n hP.1  (t) h_t e33 h_w h_u h_q_nm (by omega) (by omega)) hZ e33 cv_X7_42 rfl rfl ⟨Nat.le_of_ble_eq_true rfl, Nat.le_of_ble_eq_true rfl⟩ rfl hl.1 rfl (Nat.le_of_ble_eq_true rfl) dX7_parse_33 ⟨(Nat.le_of_ble_eq_true rfl), (Nat.le_of_ble_eq_true rfl)⟩) hZ (fun V35 n36 _ _ hw37 hZ => ?_)
  obtain ⟨rfl, hq39, ⟨z44, z45, z46, ho47, hi48⟩⟩ := hw37
  have hP := hP.trans hq39 (by intro g h; simp_all)
  have b49 := hq_rng z44
  have b50 := hq_rng z45
  have b51 := hq_rng z46
  refine lv_iconst (v := 1) hx hb dX7_parse_36 (by decide) ?_
  refine lv_istore_n (lv' := [(3, .int (1)), (0, .ref (t)), (1, .ref (w)), (2, .ref (u))]) hx hb dX7_parse_37 rfl hl (by decide) rfl (fun ls hl => ?_)
  refine lv_iconst (v := 0) hx hb dX7_parse_38 (by decide) ?_
  refine lv_istore (lv' := [(4, .int (0)), (3, .int (1)), (0, .ref (t)), (1, .ref (w)), (2, .ref (u))]) hx hb dX7_parse_39 hl (by decide) rfl (fun ls hl => ?_)
  have hl52 : (1 : Int32).toInt = 1 := by decide
  have hl53 : (0 : Int32).toInt = 0 := by decide
  have hl54 : (0 : Int32).toInt = 0 := by decide
  have hl55 : (-1 : Int32).toInt = -1 := by decide
  have fx57 : V35 (u) = some (.inr (0, [.ref (b_cn), .int (z14), .ref (b_vn), .ref (b_vc), .int (z15), .ref (b_ln), .int (z16)])) := (hq39.2 (u) _ h_u rfl).trans ((o34 (u) (hq_tne h_u h_t (by simp))).trans ((o31 (u) (hq_tne h_u h_t (by simp))).trans ((o28 (u) (hq_tne h_u h_t (by simp))).trans (ho17))))
  suffices lp41 : ∀ (k9 : Nat) (V9 : hp_V) (H9 : Heap) (locs9 : List Loc) (ls : Array Slot) (wh : Int32) (i : Int32) (fk9 : Int32) (fp9 : Int32) (nx9 : Int32) (tk9 : Int32) (st9 : Int32) (cs9 : Int32) (vs9 : Int32) (ls9 : Int32), (5000 - i.toInt).toNat = k9 → hp_Z D cs B s V9 H9 n locs9 → hq_P cs G (fun g => g.1 == 3 || g.1 == 4 || (g.1 == 20 && g.2 == 1) || (g.1 == 21 && g.2 == 1)) V V9 → V9 (t) = some (.inr (7, [.int (fk9), .int (fp9), .ref (w), .ref (u), .int (nx9), .int (tk9), .int (st9), .ref (q_nm)])) → V9 (u) = some (.inr (0, [.ref (b_cn), .int (cs9), .ref (b_vn), .ref (b_vc), .int (vs9), .ref (b_ln), .int (ls9)])) → 0 ≤ nx9.toInt ∧ nx9.toInt ≤ 4002 → 0 ≤ st9.toInt ∧ st9.toInt ≤ 4001 → nx9.toInt ≤ 4001 ∨ tk9.toInt = 21 → 0 ≤ cs9.toInt ∧ cs9.toInt ≤ 6 → 0 ≤ vs9.toInt ∧ vs9.toInt ≤ 30 → 0 ≤ ls9.toInt ∧ ls9.toInt ≤ 60 → 0 ≤ wh.toInt ∧ wh.toInt ≤ 1 → 0 ≤ i.toInt → i.toInt ≤ 4001 → hq_JW cs V9 u wh → lv_has ls 5 [(4, .int (i)), (3, .int (wh)), (0, .ref (t)), (1, .ref (w)), (2, .ref (u))] → W p l e ({ frames := 10, cells := 0, slots := 0, locals := 219 }) s m ([.ref (t), .ref (w), .ref (u)] : List Value).toArray below meth c H9 locs9 0 0 (MQ below (hp_QI D cs B (fun r V' n' => n = n' ∧ hq_P cs G (fun g => g.1 == 3 || g.1 == 4 || (g.1 == 20 && g.2 == 1) || (g.1 == 21 && g.2 == 1)) V V' ∧ (∃ (q_fk1 : Int32) (q_fp1 : Int32) (q_tx1 : Value) (q_ou1 : Value) (q_nx1 : Int32) (q_tk1 : Int32) (q_st1 : Int32), V' t = some (.inr (7, [.int (q_fk1), .int (q_fp1), q_tx1, q_ou1, .int (q_nx1), .int (q_tk1), .int (q_st1), .ref (q_nm)]))) ∧ (∃ (b_cs1 : Int32) (b_vs1 : Int32) (b_ls1 : Int32), V' u = some (.inr (0, [.ref (b_cn), .int (b_cs1), .ref (b_vn), .ref (b_vc), .int (b_vs1), .ref (b_ln), .int (b_ls1)])) ∧ (0 ≤ b_cs1.toInt ∧ b_cs1.toInt ≤ 6) ∧ (0 ≤ b_vs1.toInt ∧ b_vs1.toInt ≤ 30) ∧ (0 ≤ b_ls1.toInt ∧ b_ls1.toInt ≤ 60)) ∧ ((0 ≤ r.toInt ∧ r.toInt ≤ 1) ∧ hq_JW cs V' u r))) ([.ref (t), .ref (w), .ref (u)] : List Value).toArray s 0 0 (hp_F B)) (F0 m 41 ls []) from lp41 _ _ _ _ ls (1) (0) (0) (-1) (z44) (z45) (z46) (z14) (z15) (z16) rfl hZ hP ho47 fx57 (by omega) (by omega) (by omega) (by omega) (by omega) (by omega) (by omega) (by omega) (by omega) (fun _ => hq_J.empty fx57 (by omega)) (lv_sub hl [0, 1, 2, 3, 4] rfl)
  intro k9
  induction k9 using Nat.strongRecOn with
  | _ k9 ih41 =>
    intro V9 H9 locs9 ls wh i fk9 fp9 nx9 tk9 st9 cs9 vs9 ls9 hk41 hZ hP ho56 ho58 hv59 hv60 hv61 hv62 hv63 hv64 hv65 hv66 hv67 hjw hl
    have hb_wh := hq_rng wh
    have hb_i := hq_rng i
    have hb_fk9 := hq_rng fk9
    have hb_fp9 := hq_rng fp9
    have hb_nx9 := hq_rng nx9
    have hb_tk9 := hq_rng tk9
    have hb_st9 := hq_rng st9
    have hb_cs9 := hq_rng cs9
    have hb_vs9 := hq_rng vs9
    have hb_ls9 := hq_rng ls9
    have hP_41 := hP
    refine lv_iload hx hb dX7_parse_41 (lv_at hl 0 rfl) ?_
    refine lv_sipush (v := 4000) hx hb dX7_parse_43 (by decide) ?_
    refine lv_icmp_gt (tgt := 138) hx hb dX7_parse_46 (by decide) (fun c68 => ?_) (fun c68 => ?_)
    · have c68 : (4000 : Int) < (i).toInt := hq_lti.mp c68
      refine lv_iload_n hx hb dX7_parse_138 rfl (lv_at hl 1 rfl) ?_
      exact hp_zret hx hb hr (hq_nzi (by omega) (by omega)) hlocks hZ ⟨rfl, hP, ⟨fk9, fp9, (.ref (w)), (.ref (u)), nx9, tk9, st9, ho56⟩, ⟨cs9, vs9, ls9, ho58, by omega, by omega, by omega⟩, ⟨by omega, hjw⟩⟩ dX7_parse_139
    · have c68 : ¬ (4000 : Int) < (i).toInt := fun h9 => c68 (hq_lti.mpr h9)
      refine lv_iload_n hx hb dX7_parse_49 rfl (lv_at hl 1 rfl) ?_
      refine lv_if_eq (tgt := 138) hx hb dX7_parse_50 (by decide) (fun c69 => ?_) (fun c69 => ?_)
      · have c69 : (wh).toInt = (0 : Int) := hq_eqi.mp c69
        refine lv_iload_n hx hb dX7_parse_138 rfl (lv_at hl 1 rfl) ?_
        exact hp_zret hx hb hr (hq_nzi (by omega) (by omega)) hlocks hZ ⟨rfl, hP, ⟨fk9, fp9, (.ref (w)), (.ref (u)), nx9, tk9, st9, ho56⟩, ⟨cs9, vs9, ls9, ho58, by omega, by omega, by omega⟩, ⟨by omega, hjw⟩⟩ dX7_parse_139
      · have c69 : ¬ (wh).toInt = (0 : Int) := fun h9 => c69 (hq_eqi.mpr h9)
        refine lv_aload_n hx hb dX7_parse_53 rfl (lv_at hl 2 rfl) ?_
        refine hp_get (v := .int (tk9)) hx hb hts hown hZ ho56 fl_X7_45 rfl dX7_parse_54 ?_
        refine lv_bipush (v := 21) hx hb dX7_parse_57 (by decide) ?_
        refine lv_icmp_eq (tgt := 138) hx hb dX7_parse_59 (by decide) (fun c70 => ?_) (fun c70 => ?_)
        · have c70 : (tk9).toInt = (21 : Int) := hq_eqi.mp c70
          refine lv_iload_n hx hb dX7_parse_138 rfl (lv_at hl 1 rfl) ?_
          exact hp_zret hx hb hr (hq_nzi (by omega) (by omega)) hlocks hZ ⟨rfl, hP, ⟨fk9, fp9, (.ref (w)), (.ref (u)), nx9, tk9, st9, ho56⟩, ⟨cs9, vs9, ls9, ho58, by omega, by omega, by omega⟩, ⟨by omega, hjw⟩⟩ dX7_parse_139
        · have c70 : ¬ (tk9).toInt = (21 : Int) := fun h9 => c70 (hq_eqi.mpr h9)
          refine lv_aload_n hx hb dX7_parse_62 rfl (lv_at hl 2 rfl) ?_
          refine hp_get (v := .int (tk9)) hx hb hts hown hZ ho56 fl_X7_45 rfl dX7_parse_63 ?_
          rcases Classical.em (tk9 = 6) with h71 | h71
          · refine lv_lookup (off := 26) (tgt := 92) hx hb dX7_parse_66 (by decide) (by rw [h71]; decide) (by decide) ?_
            have b72 : (tk9).toInt = 6 := by rw [h71]; decide
            refine lv_aload_n hx hb dX7_parse_92 rfl (lv_at hl 2 rfl) ?_
            refine hp_calli (hp_runV (As := []) (rest := []) hx hb hml hown hts (t_X7_takeClass_1 l D cs B G  V9 n hP.1  (t) h_t ho56 h_w h_u h_q_nm (by omega) (by omega) (by omega) ho58 h_b_cn h_b_vn h_b_vc h_b_ln (by omega) (by omega) (by omega) (by omega)) hZ ho56 cv_X7_48 rfl rfl ⟨Nat.le_of_ble_eq_true rfl, Nat.le_of_ble_eq_true rfl⟩ rfl hl.1 rfl (Nat.le_of_ble_eq_true rfl) dX7_parse_93 ⟨(Nat.le_of_ble_eq_true rfl), (Nat.le_of_ble_eq_true rfl)⟩) hZ (fun r76 V73 n74 _ _ hw75 hZ => ?_)
            obtain ⟨rfl, hq77, ⟨z79, z80, z81, z82, z83, ho84, hi85, hi86, hi87⟩, ⟨z88, ho89, hi90⟩, hr78⟩ := hw75
            have hP := hP.trans hq77 (by intro g h; simp_all)
            have b91 := hq_rng z79
            have b92 := hq_rng z80
            have b93 := hq_rng z81
            have b94 := hq_rng z82
            have b95 := hq_rng z83
            have b96 := hq_rng z88
            have b97 := hq_rng r76
            have hj1 : r76.toInt = 1 → hq_J cs V73 u := fun h9 => hr78.2 h9 (hjw (by omega))
            refine lv_istore_n (lv' := [(3, .int (r76)), (4, .int (i)), (0, .ref (t)), (1, .ref (w)), (2, .ref (u))]) hx hb dX7_parse_96 rfl hl (by decide) rfl (fun ls hl => ?_)
            refine lv_goto (tgt := 113) hx hb dX7_parse_97 (by decide) ?_
            refine lv_iload_n hx hb dX7_parse_113 rfl (lv_at hl 0 rfl) ?_
            refine lv_if_eq (tgt := 130) hx hb dX7_parse_114 (by decide) (fun c98 => ?_) (fun c98 => ?_)
            · have c98 : (r76).toInt = (0 : Int) := hq_eqi.mp c98
              refine lv_iconst (v := 0) hx hb dX7_parse_130 (by decide) ?_
              refine lv_istore_n (lv' := [(3, .int (0)), (4, .int (i)), (0, .ref (t)), (1, .ref (w)), (2, .ref (u))]) hx hb dX7_parse_131 rfl hl (by decide) rfl (fun ls hl => ?_)
              obtain ⟨y99, ey100⟩ : ∃ y : Int32, y = i + (1) := ⟨_, rfl⟩
              obtain ⟨k101, hk102, b103, b104⟩ := hq_add (i) (1)
              rw [← ey100] at hk102 b103 b104
              have hk102 : (y99).toInt = (i).toInt + (1) + k101 * 4294967296 := hk102
              refine lv_iinc (v := y99) (lv' := [(4, .int (y99)), (3, .int (0)), (0, .ref (t)), (1, .ref (w)), (2, .ref (u))]) hx hb dX7_parse_132 hl (k := 1) rfl (by rw [ey100]; rfl) (by decide) rfl (fun ls hl => ?_)
              refine lv_goto (tgt := 41) hx hb dX7_parse_135 (by decide) ?_
              exact ih41 _ (by omega) _ _ _ ls (0) (y99) (z79) (z80) (z81) (z82) (z83) (z88) (vs9) (ls9) rfl hZ hP ho84 ho89 (by omega) (by omega) (by omega) (by omega) (by omega) (by omega) (by omega) (by omega) (by omega) (fun h9 => absurd h9 (by decide)) (lv_sub hl [0, 1, 2, 3, 4] rfl)
            · have c98 : ¬ (r76).toInt = (0 : Int) := fun h9 => c98 (hq_eqi.mpr h9)
              refine lv_aload_n hx hb dX7_parse_117 rfl (lv_at hl 2 rfl) ?_
              refine lv_bipush (v := 20) hx hb dX7_parse_118 (by decide) ?_
              have hl120 : (20 : Int32).toInt = 20 := by decide
              refine hp_calli (hp_runV (As := [.int (20)]) (rest := []) hx hb hml hown hts (t_X7_take_1 l D cs B G  V73 n hP.1  (t) h_t (20) ho84 h_w h_u h_q_nm (by omega) (by omega) (by omega) (by omega)) hZ ho84 cv_X7_58 rfl rfl ⟨Nat.le_of_ble_eq_true rfl, Nat.le_of_ble_eq_true rfl⟩ rfl hl.1 rfl (Nat.le_of_ble_eq_true rfl) dX7_parse_120 ⟨(Nat.le_of_ble_eq_true rfl), (Nat.le_of_ble_eq_true rfl)⟩) hZ (fun r108 V105 n106 _ _ hw107 hZ => ?_)
              obtain ⟨rfl, hq109, ⟨z111, z112, z113, z114, z115, ho116, hi117, hi118, hi119⟩, hr110⟩ := hw107
              have hP := hP.trans hq109 (by intro g h; simp_all)
              have b121 := hq_rng z111
              have b122 := hq_rng z112
              have b123 := hq_rng z113
              have b124 := hq_rng z114
              have b125 := hq_rng z115
              have b126 := hq_rng r108
              have hj2 : r108.toInt = 1 → hq_J cs V105 u := fun h9 => (hj1 (by omega)).keep hP.1 h_u (hq_kp hq109 (by intro g h; simp [hq_lg] at h ⊢ <;> omega)); have hj2r : r108.toInt = r108.toInt := rfl
              refine lv_if_eq (tgt := 130) hx hb dX7_parse_123 (by decide) (fun c127 => ?_) (fun c127 => ?_)
              · have c127 : (r108).toInt = (0 : Int) := hq_eqi.mp c127
                refine lv_iconst (v := 0) hx hb dX7_parse_130 (by decide) ?_
                refine lv_istore_n (lv' := [(3, .int (0)), (4, .int (i)), (0, .ref (t)), (1, .ref (w)), (2, .ref (u))]) hx hb dX7_parse_131 rfl hl (by decide) rfl (fun ls hl => ?_)
                obtain ⟨y128, ey129⟩ : ∃ y : Int32, y = i + (1) := ⟨_, rfl⟩
                obtain ⟨k130, hk131, b132, b133⟩ := hq_add (i) (1)
                rw [← ey129] at hk131 b132 b133
                have hk131 : (y128).toInt = (i).toInt + (1) + k130 * 4294967296 := hk131
                refine lv_iinc (v := y128) (lv' := [(4, .int (y128)), (3, .int (0)), (0, .ref (t)), (1, .ref (w)), (2, .ref (u))]) hx hb dX7_parse_132 hl (k := 1) rfl (by rw [ey129]; rfl) (by decide) rfl (fun ls hl => ?_)
                refine lv_goto (tgt := 41) hx hb dX7_parse_135 (by decide) ?_
                have fx134 : V105 (u) = some (.inr (0, [.ref (b_cn), .int (z88), .ref (b_vn), .ref (b_vc), .int (vs9), .ref (b_ln), .int (ls9)])) := (hq109.2 (u) _ h_u rfl).trans (ho89)
                exact ih41 _ (by omega) _ _ _ ls (0) (y128) (z111) (z112) (z113) (z114) (z115) (z88) (vs9) (ls9) rfl hZ hP ho116 fx134 (by omega) (by omega) (by omega) (by omega) (by omega) (by omega) (by omega) (by omega) (by omega) (fun h9 => absurd h9 (by decide)) (lv_sub hl [0, 1, 2, 3, 4] rfl)
              · have c127 : ¬ (r108).toInt = (0 : Int) := fun h9 => c127 (hq_eqi.mpr h9)
                refine lv_iconst (v := 1) hx hb dX7_parse_126 (by decide) ?_
                refine lv_goto (tgt := 131) hx hb dX7_parse_127 (by decide) ?_
                refine lv_istore_n (lv' := [(3, .int (1)), (4, .int (i)), (0, .ref (t)), (1, .ref (w)), (2, .ref (u))]) hx hb dX7_parse_131 rfl hl (by decide) rfl (fun ls hl => ?_)
                obtain ⟨y135, ey136⟩ : ∃ y : Int32, y = i + (1) := ⟨_, rfl⟩
                obtain ⟨k137, hk138, b139, b140⟩ := hq_add (i) (1)
                rw [← ey136] at hk138 b139 b140
                have hk138 : (y135).toInt = (i).toInt + (1) + k137 * 4294967296 := hk138
                refine lv_iinc (v := y135) (lv' := [(4, .int (y135)), (3, .int (1)), (0, .ref (t)), (1, .ref (w)), (2, .ref (u))]) hx hb dX7_parse_132 hl (k := 1) rfl (by rw [ey136]; rfl) (by decide) rfl (fun ls hl => ?_)
                refine lv_goto (tgt := 41) hx hb dX7_parse_135 (by decide) ?_
                have fx141 : V105 (u) = some (.inr (0, [.ref (b_cn), .int (z88), .ref (b_vn), .ref (b_vc), .int (vs9), .ref (b_ln), .int (ls9)])) := (hq109.2 (u) _ h_u rfl).trans (ho89)
                exact ih41 _ (by omega) _ _ _ ls (1) (y135) (z111) (z112) (z113) (z114) (z115) (z88) (vs9) (ls9) rfl hZ hP ho116 fx141 (by omega) (by omega) (by omega) (by omega) (by omega) (by omega) (by omega) (by omega) (by omega) (fun _ => hj2 (by omega)) (lv_sub hl [0, 1, 2, 3, 4] rfl)
          ·
            rcases Classical.em (tk9 = 7) with h142 | h142
            · refine lv_lookup (off := 34) (tgt := 100) hx hb dX7_parse_66 (by decide) (by rw [h142]; decide) (by decide) ?_
              have b143 : (tk9).toInt = 7 := by rw [h142]; decide
              refine lv_aload_n hx hb dX7_parse_100 rfl (lv_at hl 2 rfl) ?_
              refine hp_calli (hp_runV (As := []) (rest := []) hx hb hml hown hts (t_X7_takeVerb_1 l D cs B G  V9 n hP.1  (t) h_t ho56 h_w h_u h_q_nm (by omega) (by omega) (by omega) ho58 h_b_cn h_b_vn h_b_vc h_b_ln (by omega) (by omega) (by omega) (by omega)) hZ ho56 cv_X7_52 rfl rfl ⟨Nat.le_of_ble_eq_true rfl, Nat.le_of_ble_eq_true rfl⟩ rfl hl.1 rfl (Nat.le_of_ble_eq_true rfl) dX7_parse_101 ⟨(Nat.le_of_ble_eq_true rfl), (Nat.le_of_ble_eq_true rfl)⟩) hZ (fun r147 V144 n145 _ _ hw146 hZ => ?_)
              obtain ⟨rfl, hq148, ⟨z150, z151, z152, z153, z154, ho155, hi156, hi157, hi158⟩, ⟨z159, ho160, hi161⟩, hr149⟩ := hw146
              have hP := hP.trans hq148 (by intro g h; simp_all)
              have b162 := hq_rng z150
              have b163 := hq_rng z151
              have b164 := hq_rng z152
              have b165 := hq_rng z153
              have b166 := hq_rng z154
              have b167 := hq_rng z159
              have b168 := hq_rng r147
              have hj1 : r147.toInt = 1 → hq_J cs V144 u := fun h9 => hr149.2 h9 (hjw (by omega))
              refine lv_istore_n (lv' := [(3, .int (r147)), (4, .int (i)), (0, .ref (t)), (1, .ref (w)), (2, .ref (u))]) hx hb dX7_parse_104 rfl hl (by decide) rfl (fun ls hl => ?_)
              refine lv_goto (tgt := 113) hx hb dX7_parse_105 (by decide) ?_
              refine lv_iload_n hx hb dX7_parse_113 rfl (lv_at hl 0 rfl) ?_
              refine lv_if_eq (tgt := 130) hx hb dX7_parse_114 (by decide) (fun c169 => ?_) (fun c169 => ?_)
              · have c169 : (r147).toInt = (0 : Int) := hq_eqi.mp c169
                refine lv_iconst (v := 0) hx hb dX7_parse_130 (by decide) ?_
                refine lv_istore_n (lv' := [(3, .int (0)), (4, .int (i)), (0, .ref (t)), (1, .ref (w)), (2, .ref (u))]) hx hb dX7_parse_131 rfl hl (by decide) rfl (fun ls hl => ?_)
                obtain ⟨y170, ey171⟩ : ∃ y : Int32, y = i + (1) := ⟨_, rfl⟩
                obtain ⟨k172, hk173, b174, b175⟩ := hq_add (i) (1)
                rw [← ey171] at hk173 b174 b175
                have hk173 : (y170).toInt = (i).toInt + (1) + k172 * 4294967296 := hk173
                refine lv_iinc (v := y170) (lv' := [(4, .int (y170)), (3, .int (0)), (0, .ref (t)), (1, .ref (w)), (2, .ref (u))]) hx hb dX7_parse_132 hl (k := 1) rfl (by rw [ey171]; rfl) (by decide) rfl (fun ls hl => ?_)
                refine lv_goto (tgt := 41) hx hb dX7_parse_135 (by decide) ?_
                exact ih41 _ (by omega) _ _ _ ls (0) (y170) (z150) (z151) (z152) (z153) (z154) (cs9) (z159) (ls9) rfl hZ hP ho155 ho160 (by omega) (by omega) (by omega) (by omega) (by omega) (by omega) (by omega) (by omega) (by omega) (fun h9 => absurd h9 (by decide)) (lv_sub hl [0, 1, 2, 3, 4] rfl)
              · have c169 : ¬ (r147).toInt = (0 : Int) := fun h9 => c169 (hq_eqi.mpr h9)
                refine lv_aload_n hx hb dX7_parse_117 rfl (lv_at hl 2 rfl) ?_
                refine lv_bipush (v := 20) hx hb dX7_parse_118 (by decide) ?_
                have hl191 : (20 : Int32).toInt = 20 := by decide
                refine hp_calli (hp_runV (As := [.int (20)]) (rest := []) hx hb hml hown hts (t_X7_take_1 l D cs B G  V144 n hP.1  (t) h_t (20) ho155 h_w h_u h_q_nm (by omega) (by omega) (by omega) (by omega)) hZ ho155 cv_X7_58 rfl rfl ⟨Nat.le_of_ble_eq_true rfl, Nat.le_of_ble_eq_true rfl⟩ rfl hl.1 rfl (Nat.le_of_ble_eq_true rfl) dX7_parse_120 ⟨(Nat.le_of_ble_eq_true rfl), (Nat.le_of_ble_eq_true rfl)⟩) hZ (fun r179 V176 n177 _ _ hw178 hZ => ?_)
                obtain ⟨rfl, hq180, ⟨z182, z183, z184, z185, z186, ho187, hi188, hi189, hi190⟩, hr181⟩ := hw178
                have hP := hP.trans hq180 (by intro g h; simp_all)
                have b192 := hq_rng z182
                have b193 := hq_rng z183
                have b194 := hq_rng z184
                have b195 := hq_rng z185
                have b196 := hq_rng z186
                have b197 := hq_rng r179
                have hj2 : r179.toInt = 1 → hq_J cs V176 u := fun h9 => (hj1 (by omega)).keep hP.1 h_u (hq_kp hq180 (by intro g h; simp [hq_lg] at h ⊢ <;> omega)); have hj2r : r179.toInt = r179.toInt := rfl
                refine lv_if_eq (tgt := 130) hx hb dX7_parse_123 (by decide) (fun c198 => ?_) (fun c198 => ?_)
                · have c198 : (r179).toInt = (0 : Int) := hq_eqi.mp c198
                  refine lv_iconst (v := 0) hx hb dX7_parse_130 (by decide) ?_
                  refine lv_istore_n (lv' := [(3, .int (0)), (4, .int (i)), (0, .ref (t)), (1, .ref (w)), (2, .ref (u))]) hx hb dX7_parse_131 rfl hl (by decide) rfl (fun ls hl => ?_)
                  obtain ⟨y199, ey200⟩ : ∃ y : Int32, y = i + (1) := ⟨_, rfl⟩
                  obtain ⟨k201, hk202, b203, b204⟩ := hq_add (i) (1)
                  rw [← ey200] at hk202 b203 b204
                  have hk202 : (y199).toInt = (i).toInt + (1) + k201 * 4294967296 := hk202
                  refine lv_iinc (v := y199) (lv' := [(4, .int (y199)), (3, .int (0)), (0, .ref (t)), (1, .ref (w)), (2, .ref (u))]) hx hb dX7_parse_132 hl (k := 1) rfl (by rw [ey200]; rfl) (by decide) rfl (fun ls hl => ?_)
                  refine lv_goto (tgt := 41) hx hb dX7_parse_135 (by decide) ?_
                  have fx205 : V176 (u) = some (.inr (0, [.ref (b_cn), .int (cs9), .ref (b_vn), .ref (b_vc), .int (z159), .ref (b_ln), .int (ls9)])) := (hq180.2 (u) _ h_u rfl).trans (ho160)
                  exact ih41 _ (by omega) _ _ _ ls (0) (y199) (z182) (z183) (z184) (z185) (z186) (cs9) (z159) (ls9) rfl hZ hP ho187 fx205 (by omega) (by omega) (by omega) (by omega) (by omega) (by omega) (by omega) (by omega) (by omega) (fun h9 => absurd h9 (by decide)) (lv_sub hl [0, 1, 2, 3, 4] rfl)
                · have c198 : ¬ (r179).toInt = (0 : Int) := fun h9 => c198 (hq_eqi.mpr h9)
                  refine lv_iconst (v := 1) hx hb dX7_parse_126 (by decide) ?_
                  refine lv_goto (tgt := 131) hx hb dX7_parse_127 (by decide) ?_
                  refine lv_istore_n (lv' := [(3, .int (1)), (4, .int (i)), (0, .ref (t)), (1, .ref (w)), (2, .ref (u))]) hx hb dX7_parse_131 rfl hl (by decide) rfl (fun ls hl => ?_)
                  obtain ⟨y206, ey207⟩ : ∃ y : Int32, y = i + (1) := ⟨_, rfl⟩
                  obtain ⟨k208, hk209, b210, b211⟩ := hq_add (i) (1)
                  rw [← ey207] at hk209 b210 b211
                  have hk209 : (y206).toInt = (i).toInt + (1) + k208 * 4294967296 := hk209
                  refine lv_iinc (v := y206) (lv' := [(4, .int (y206)), (3, .int (1)), (0, .ref (t)), (1, .ref (w)), (2, .ref (u))]) hx hb dX7_parse_132 hl (k := 1) rfl (by rw [ey207]; rfl) (by decide) rfl (fun ls hl => ?_)
                  refine lv_goto (tgt := 41) hx hb dX7_parse_135 (by decide) ?_
                  have fx212 : V176 (u) = some (.inr (0, [.ref (b_cn), .int (cs9), .ref (b_vn), .ref (b_vc), .int (z159), .ref (b_ln), .int (ls9)])) := (hq180.2 (u) _ h_u rfl).trans (ho160)
                  exact ih41 _ (by omega) _ _ _ ls (1) (y206) (z182) (z183) (z184) (z185) (z186) (cs9) (z159) (ls9) rfl hZ hP ho187 fx212 (by omega) (by omega) (by omega) (by omega) (by omega) (by omega) (by omega) (by omega) (by omega) (fun _ => hj2 (by omega)) (lv_sub hl [0, 1, 2, 3, 4] rfl)
            ·
              have z213 : ¬ (tk9).toInt = 6 := lv_neT h71 (by decide)
              have z214 : ¬ (tk9).toInt = 7 := lv_neT h142 (by decide)
              refine lv_lookup (off := 42) (tgt := 108) hx hb dX7_parse_66 (by decide) ((lv_osw h71 (by decide)).trans ((lv_osw h142 (by decide)).trans (rfl))) (by decide) ?_
              refine lv_aload_n hx hb dX7_parse_108 rfl (lv_at hl 2 rfl) ?_
              refine hp_calli (hp_runV (As := []) (rest := []) hx hb hml hown hts (t_X7_takeLine_1 l D cs B G  V9 n hP.1  (t) h_t ho56 h_w h_u h_q_nm (by omega) (by omega) (by omega) ho58 h_b_cn h_b_vn h_b_vc h_b_ln (by omega) (by omega) (by omega) ) hZ ho56 cv_X7_55 rfl rfl ⟨Nat.le_of_ble_eq_true rfl, Nat.le_of_ble_eq_true rfl⟩ rfl hl.1 rfl (Nat.le_of_ble_eq_true rfl) dX7_parse_109 ⟨(Nat.le_of_ble_eq_true rfl), (Nat.le_of_ble_eq_true rfl)⟩) hZ (fun r218 V215 n216 _ _ hw217 hZ => ?_)
              obtain ⟨rfl, hq219, ⟨z221, z222, z223, z224, z225, ho226, hi227, hi228, hi229⟩, ⟨z230, ho231, hi232⟩, hr220⟩ := hw217
              have hP := hP.trans hq219 (by intro g h; simp_all)
              have b233 := hq_rng z221
              have b234 := hq_rng z222
              have b235 := hq_rng z223
              have b236 := hq_rng z224
              have b237 := hq_rng z225
              have b238 := hq_rng z230
              have b239 := hq_rng r218
              have hj1 : r218.toInt = 1 → hq_J cs V215 u := fun h9 => hr220.2 h9 (hjw (by omega))
              refine lv_istore_n (lv' := [(3, .int (r218)), (4, .int (i)), (0, .ref (t)), (1, .ref (w)), (2, .ref (u))]) hx hb dX7_parse_112 rfl hl (by decide) rfl (fun ls hl => ?_)
              refine lv_iload_n hx hb dX7_parse_113 rfl (lv_at hl 0 rfl) ?_
              refine lv_if_eq (tgt := 130) hx hb dX7_parse_114 (by decide) (fun c240 => ?_) (fun c240 => ?_)
              · have c240 : (r218).toInt = (0 : Int) := hq_eqi.mp c240
                refine lv_iconst (v := 0) hx hb dX7_parse_130 (by decide) ?_
                refine lv_istore_n (lv' := [(3, .int (0)), (4, .int (i)), (0, .ref (t)), (1, .ref (w)), (2, .ref (u))]) hx hb dX7_parse_131 rfl hl (by decide) rfl (fun ls hl => ?_)
                obtain ⟨y241, ey242⟩ : ∃ y : Int32, y = i + (1) := ⟨_, rfl⟩
                obtain ⟨k243, hk244, b245, b246⟩ := hq_add (i) (1)
                rw [← ey242] at hk244 b245 b246
                have hk244 : (y241).toInt = (i).toInt + (1) + k243 * 4294967296 := hk244
                refine lv_iinc (v := y241) (lv' := [(4, .int (y241)), (3, .int (0)), (0, .ref (t)), (1, .ref (w)), (2, .ref (u))]) hx hb dX7_parse_132 hl (k := 1) rfl (by rw [ey242]; rfl) (by decide) rfl (fun ls hl => ?_)
                refine lv_goto (tgt := 41) hx hb dX7_parse_135 (by decide) ?_
                exact ih41 _ (by omega) _ _ _ ls (0) (y241) (z221) (z222) (z223) (z224) (z225) (cs9) (vs9) (z230) rfl hZ hP ho226 ho231 (by omega) (by omega) (by omega) (by omega) (by omega) (by omega) (by omega) (by omega) (by omega) (fun h9 => absurd h9 (by decide)) (lv_sub hl [0, 1, 2, 3, 4] rfl)
              · have c240 : ¬ (r218).toInt = (0 : Int) := fun h9 => c240 (hq_eqi.mpr h9)
                refine lv_aload_n hx hb dX7_parse_117 rfl (lv_at hl 2 rfl) ?_
                refine lv_bipush (v := 20) hx hb dX7_parse_118 (by decide) ?_
                have hl262 : (20 : Int32).toInt = 20 := by decide
                refine hp_calli (hp_runV (As := [.int (20)]) (rest := []) hx hb hml hown hts (t_X7_take_1 l D cs B G  V215 n hP.1  (t) h_t (20) ho226 h_w h_u h_q_nm (by omega) (by omega) (by omega) (by omega)) hZ ho226 cv_X7_58 rfl rfl ⟨Nat.le_of_ble_eq_true rfl, Nat.le_of_ble_eq_true rfl⟩ rfl hl.1 rfl (Nat.le_of_ble_eq_true rfl) dX7_parse_120 ⟨(Nat.le_of_ble_eq_true rfl), (Nat.le_of_ble_eq_true rfl)⟩) hZ (fun r250 V247 n248 _ _ hw249 hZ => ?_)
                obtain ⟨rfl, hq251, ⟨z253, z254, z255, z256, z257, ho258, hi259, hi260, hi261⟩, hr252⟩ := hw249
                have hP := hP.trans hq251 (by intro g h; simp_all)
                have b263 := hq_rng z253
                have b264 := hq_rng z254
                have b265 := hq_rng z255
                have b266 := hq_rng z256
                have b267 := hq_rng z257
                have b268 := hq_rng r250
                have hj2 : r250.toInt = 1 → hq_J cs V247 u := fun h9 => (hj1 (by omega)).keep hP.1 h_u (hq_kp hq251 (by intro g h; simp [hq_lg] at h ⊢ <;> omega)); have hj2r : r250.toInt = r250.toInt := rfl
                refine lv_if_eq (tgt := 130) hx hb dX7_parse_123 (by decide) (fun c269 => ?_) (fun c269 => ?_)
                · have c269 : (r250).toInt = (0 : Int) := hq_eqi.mp c269
                  refine lv_iconst (v := 0) hx hb dX7_parse_130 (by decide) ?_
                  refine lv_istore_n (lv' := [(3, .int (0)), (4, .int (i)), (0, .ref (t)), (1, .ref (w)), (2, .ref (u))]) hx hb dX7_parse_131 rfl hl (by decide) rfl (fun ls hl => ?_)
                  obtain ⟨y270, ey271⟩ : ∃ y : Int32, y = i + (1) := ⟨_, rfl⟩
                  obtain ⟨k272, hk273, b274, b275⟩ := hq_add (i) (1)
                  rw [← ey271] at hk273 b274 b275
                  have hk273 : (y270).toInt = (i).toInt + (1) + k272 * 4294967296 := hk273
                  refine lv_iinc (v := y270) (lv' := [(4, .int (y270)), (3, .int (0)), (0, .ref (t)), (1, .ref (w)), (2, .ref (u))]) hx hb dX7_parse_132 hl (k := 1) rfl (by rw [ey271]; rfl) (by decide) rfl (fun ls hl => ?_)
                  refine lv_goto (tgt := 41) hx hb dX7_parse_135 (by decide) ?_
                  have fx276 : V247 (u) = some (.inr (0, [.ref (b_cn), .int (cs9), .ref (b_vn), .ref (b_vc), .int (vs9), .ref (b_ln), .int (z230)])) := (hq251.2 (u) _ h_u rfl).trans (ho231)
                  exact ih41 _ (by omega) _ _ _ ls (0) (y270) (z253) (z254) (z255) (z256) (z257) (cs9) (vs9) (z230) rfl hZ hP ho258 fx276 (by omega) (by omega) (by omega) (by omega) (by omega) (by omega) (by omega) (by omega) (by omega) (fun h9 => absurd h9 (by decide)) (lv_sub hl [0, 1, 2, 3, 4] rfl)
                · have c269 : ¬ (r250).toInt = (0 : Int) := fun h9 => c269 (hq_eqi.mpr h9)
                  refine lv_iconst (v := 1) hx hb dX7_parse_126 (by decide) ?_
                  refine lv_goto (tgt := 131) hx hb dX7_parse_127 (by decide) ?_
                  refine lv_istore_n (lv' := [(3, .int (1)), (4, .int (i)), (0, .ref (t)), (1, .ref (w)), (2, .ref (u))]) hx hb dX7_parse_131 rfl hl (by decide) rfl (fun ls hl => ?_)
                  obtain ⟨y277, ey278⟩ : ∃ y : Int32, y = i + (1) := ⟨_, rfl⟩
                  obtain ⟨k279, hk280, b281, b282⟩ := hq_add (i) (1)
                  rw [← ey278] at hk280 b281 b282
                  have hk280 : (y277).toInt = (i).toInt + (1) + k279 * 4294967296 := hk280
                  refine lv_iinc (v := y277) (lv' := [(4, .int (y277)), (3, .int (1)), (0, .ref (t)), (1, .ref (w)), (2, .ref (u))]) hx hb dX7_parse_132 hl (k := 1) rfl (by rw [ey278]; rfl) (by decide) rfl (fun ls hl => ?_)
                  refine lv_goto (tgt := 41) hx hb dX7_parse_135 (by decide) ?_
                  have fx283 : V247 (u) = some (.inr (0, [.ref (b_cn), .int (cs9), .ref (b_vn), .ref (b_vc), .int (vs9), .ref (b_ln), .int (z230)])) := (hq251.2 (u) _ h_u rfl).trans (ho231)
                  exact ih41 _ (by omega) _ _ _ ls (1) (y277) (z253) (z254) (z255) (z256) (z257) (cs9) (vs9) (z230) rfl hZ hP ho258 fx283 (by omega) (by omega) (by omega) (by omega) (by omega) (by omega) (by omega) (by omega) (by omega) (fun _ => hj2 (by omega)) (lv_sub hl [0, 1, 2, 3, 4] rfl)

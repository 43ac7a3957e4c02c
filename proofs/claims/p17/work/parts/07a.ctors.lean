set_option maxHeartbeats 4000000 in
set_option maxRecDepth 100000 in
theorem c_X9_init (l : Launch) (D : va_G) (cs : Nat → ClassId) (B : Nat) (V : hp_V) (n : Nat) (a N : Nat) (k : Int32) (hk0 : (if 0 < k then k else 0) = k) (hk1 : ¬ k < 0) (hk2 : k.toNatClampNeg = N) (hN : N ≤ 100000) (f0 : V a = some (.inr (9, [.null, .int 0]))) : hp_M l yX9_init cX9_init 2 none ({ frames := 1, cells := 1, slots := N, locals := 21 }) D cs B V n [.ref (a), .int (k)] (hp_QV D cs B (fun V' n' => n' = n + 1 ∧ V' (a) = some (.inr (9, [.ref (n), .int (0)])) ∧ V' (n) = some (.inl (cs 0, N, .inl (fun _ => 0))) ∧ ∀ x, x < n → x ≠ a → V' x = V x)) 1 (N) := by
  refine hp_walk (R0 := RX9) (by decide) rfl ?_ (Nat.le_of_ble_eq_true rfl)
  intro p e s m below meth c ls hx hb hr hts hown hlocks hin hml hZ hl
  have hin : meth.name = "<init>" := hin
  have hl : lv_has ls 2 [(0, .ref (a)), (1, .int (k))] := hl
  have lt_f0 := hZ.lt f0
  refine lv_aload_n hx hb dX9_init_0 rfl (lv_at hl 0 rfl) ?_
  refine W.objInit hx hb hown (hts _ oi_X9_3) (hts _ oi_i) (hts _ oi_c) rfl (by rw [hml]; exact hl.1) rfl dX9_init_1 (Nat.le_of_ble_eq_true rfl) (Nat.le_of_ble_eq_true rfl) ?_
  refine W.eq (g2 := F0 m 4 ls []) rfl ?_
  refine lv_aload_n hx hb dX9_init_4 rfl (lv_at hl 0 rfl) ?_
  refine lv_iconst (v := 0) hx hb dX9_init_5 (by decide) ?_
  refine lv_iload_n hx hb dX9_init_6 rfl (lv_at hl 1 rfl) ?_
  refine va_mmax hx hb (hml.trans hl.1.symm) hown (hts _ lk_X9_9) (hts _ ms_max) (hts _ mi_math) (hts _ mk_max) (Nat.le_of_ble_eq_true rfl) (Nat.le_of_ble_eq_true rfl) (Nat.zero_le _) (Nat.zero_le _) dX9_init_7 ?_
  refine lv_topi (fun y1 ey2 => ?_)
  obtain rfl : y1 = k := ey2.trans (hk0)
  refine hp_newa (ty := .byte) (t0 := 0) (cA := cs 0) (N := N) (a0 := (N, .inl (fun _ => 0))) hx hb hts hZ rfl ac_byte rfl rfl (fun _ => rfl) hk1 hk2 (by show N * 1 ≤ _; omega) (Nat.le_of_ble_eq_true rfl) (by show 0 + N ≤ N; omega) dX9_init_10 (fun V3 _ e4 o5 hZ => ?_)
  have e4 : V3 (n) = some (.inl (cs 0, N, .inl (fun _ => 0))) := e4
  have fx6 := (o5 (a) (hq_lt lt_f0 0)).trans (f0)
  have fx6 : V3 (a) = some (.inr (9, [.null, .int (0)])) := fx6
  refine hp_putF hx hb hts hown hin hZ fx6 fp_X9_15 rfl rfl (Nat.le_of_ble_eq_true rfl) dX9_init_12 (fun V7 _ _ e8 o9 hZ => ?_)
  have e8 : V7 (a) = some (.inr (9, [.ref (n), .int (0)])) := e8
  refine lv_aload_n hx hb dX9_init_15 rfl (lv_at hl 0 rfl) ?_
  refine lv_iconst (v := 0) hx hb dX9_init_16 (by decide) ?_
  refine hp_put hx hb hts hown hZ e8 fp_X9_21 rfl rfl (Nat.le_of_ble_eq_true rfl) dX9_init_17 (fun V10 _ _ e11 o12 hZ => ?_)
  have e11 : V10 (a) = some (.inr (9, [.ref (n), .int (0)])) := e11
  refine W.widen (k := 1) (n := N) (Nat.le_of_ble_eq_true rfl) (by omega) ?_
  have fx13 := (o12 (n) (hq_lt lt_f0 0).symm).trans ((o9 (n) (hq_lt lt_f0 0).symm).trans (e4))
  have fx13 : V10 (n) = some (.inl (cs 0, N, .inl (fun _ => 0))) := fx13
  exact hp_vret hx hb hr hlocks hZ ⟨rfl, e11, fx13, fun x hxn hxa => (o12 (x) hxa).trans ((o9 (x) hxa).trans (o5 (x) (hq_lt hxn 0)))⟩ dX9_init_20

set_option maxHeartbeats 4000000 in
set_option maxRecDepth 100000 in
theorem c_X10_init (l : Launch) (D : va_G) (cs : Nat → ClassId) (B : Nat) (V : hp_V) (n : Nat) (a : Nat) : hp_M l yX10_init cX10_init 1 none ({ frames := 1, cells := 0, slots := 0, locals := 21 }) D cs B V n [.ref (a)] (hp_QV D cs B (fun V' n' => n' = n ∧ ∀ x, V' x = V x)) 0 (0) := by
  refine hp_walk (R0 := RX10) (by decide) rfl ?_ (Nat.le_of_ble_eq_true rfl)
  intro p e s m below meth c ls hx hb hr hts hown hlocks hin hml hZ hl
  have hin : meth.name = "<init>" := hin
  have hl : lv_has ls 1 [(0, .ref (a))] := hl
  refine lv_aload_n hx hb dX10_init_0 rfl (lv_at hl 0 rfl) ?_
  refine W.objInit hx hb hown (hts _ oi_X10_3) (hts _ oi_i) (hts _ oi_c) rfl (by rw [hml]; exact hl.1) rfl dX10_init_1 (Nat.le_of_ble_eq_true rfl) (Nat.le_of_ble_eq_true rfl) ?_
  refine W.eq (g2 := F0 m 4 ls []) rfl ?_
  exact hp_vret hx hb hr hlocks hZ ⟨rfl, fun _ => rfl⟩ dX10_init_4

set_option maxHeartbeats 4000000 in
set_option maxRecDepth 100000 in
theorem c_X5_init (l : Launch) (D : va_G) (cs : Nat → ClassId) (B : Nat) (V : hp_V) (n : Nat) (a : Nat) (f0 : V a = some (.inr (5, [.int (0), .int (0), .int (0), .int (0), .int (0), .int (0), .int (0), .int (0), .null, .null]))) : hp_M l yX5_init cX5_init 1 none ({ frames := 2, cells := 4, slots := 20, locals := 42 }) D cs B V n [.ref (a)] (hp_QV D cs B (fun V' n' => n' = n + 4 ∧ V' (a) = some (.inr (5, [.int (0), .int (0), .int (0), .int (0), .int (0), .int (0), .int (0), .int (0), .ref (n), .ref (n + 2)])) ∧ V' (n) = some (.inr (9, [.ref (n + 1), .int (0)])) ∧ V' (n + 1) = some (.inl (cs 0, 8, .inl (fun _ => 0))) ∧ V' (n + 2) = some (.inr (9, [.ref (n + 3), .int (0)])) ∧ V' (n + 3) = some (.inl (cs 0, 8, .inl (fun _ => 0))) ∧ ∀ x, x < n → x ≠ a → V' x = V x)) 4 (20) := by
  refine hp_walk (R0 := RX5) (by decide) rfl ?_ (Nat.le_of_ble_eq_true rfl)
  intro p e s m below meth c ls hx hb hr hts hown hlocks hin hml hZ hl
  have hin : meth.name = "<init>" := hin
  have hl : lv_has ls 1 [(0, .ref (a))] := hl
  have lt_f0 := hZ.lt f0
  refine lv_aload_n hx hb dX5_init_0 rfl (lv_at hl 0 rfl) ?_
  refine W.objInit hx hb hown (hts _ oi_X5_3) (hts _ oi_i) (hts _ oi_c) rfl (by rw [hml]; exact hl.1) rfl dX5_init_1 (Nat.le_of_ble_eq_true rfl) (Nat.le_of_ble_eq_true rfl) ?_
  refine W.eq (g2 := F0 m 4 ls []) rfl ?_
  refine lv_aload_n hx hb dX5_init_4 rfl (lv_at hl 0 rfl) ?_
  refine hp_new hx hb hts hown hZ nw_X5_9 (Nat.le_of_ble_eq_true rfl) (Nat.le_of_ble_eq_true rfl) dX5_init_5 (fun V1 _ e2 o3 hZ => ?_)
  have e2 : V1 (n) = some (.inr (9, [.null, .int (0)])) := e2
  refine lv_dup hx hb dX5_init_8 rfl ?_
  refine lv_bipush (v := 8) hx hb dX5_init_9 (by decide) ?_
  refine hp_callv (hp_runN (As := [.int (8)]) (rest := [.ref (n), .ref (a)]) hx hb hml hown hts (c_X9_init l D cs B V1 (n + 1) (n) 8 8 (by decide) (by decide) (by decide) (by decide) e2) hZ cv_X5_11 rfl rfl ⟨Nat.le_of_ble_eq_true rfl, Nat.le_of_ble_eq_true rfl⟩ rfl hl.1 rfl (Nat.le_of_ble_eq_true rfl) dX5_init_11 ⟨(Nat.le_of_ble_eq_true rfl), (Nat.le_of_ble_eq_true rfl)⟩) hZ (fun V4 n5 _ _ hw6 hZ => ?_)
  obtain ⟨hn8, g9, g10, fr7⟩ := hw6
  have hn8 : n + 2 = n5 := by omega
  subst hn8
  have fx11 := (fr7 (a) (hq_ltn lt_f0 1) (hq_lt lt_f0 0)).trans ((o3 (a) (hq_lt lt_f0 0)).trans (f0))
  have fx11 : V4 (a) = some (.inr (5, [.int (0), .int (0), .int (0), .int (0), .int (0), .int (0), .int (0), .int (0), .null, .null])) := fx11
  refine hp_putF hx hb hts hown hin hZ fx11 fp_X5_14 rfl rfl (Nat.le_of_ble_eq_true rfl) dX5_init_14 (fun V12 _ _ e13 o14 hZ => ?_)
  have e13 : V12 (a) = some (.inr (5, [.int (0), .int (0), .int (0), .int (0), .int (0), .int (0), .int (0), .int (0), .ref (n), .null])) := e13
  refine lv_aload_n hx hb dX5_init_17 rfl (lv_at hl 0 rfl) ?_
  refine hp_new hx hb hts hown hZ nw_X5_9 (Nat.le_of_ble_eq_true rfl) (Nat.le_of_ble_eq_true rfl) dX5_init_18 (fun V15 _ e16 o17 hZ => ?_)
  have e16 : V15 (n + 2) = some (.inr (9, [.null, .int (0)])) := e16
  refine lv_dup hx hb dX5_init_21 rfl ?_
  refine lv_bipush (v := 8) hx hb dX5_init_22 (by decide) ?_
  refine hp_callv (hp_runN (As := [.int (8)]) (rest := [.ref (n + 2), .ref (a)]) hx hb hml hown hts (c_X9_init l D cs B V15 (n + 3) (n + 2) 8 8 (by decide) (by decide) (by decide) (by decide) e16) hZ cv_X5_11 rfl rfl ⟨Nat.le_of_ble_eq_true rfl, Nat.le_of_ble_eq_true rfl⟩ rfl hl.1 rfl (Nat.le_of_ble_eq_true rfl) dX5_init_24 ⟨(Nat.le_of_ble_eq_true rfl), (Nat.le_of_ble_eq_true rfl)⟩) hZ (fun V18 n19 _ _ hw20 hZ => ?_)
  obtain ⟨hn22, g23, g24, fr21⟩ := hw20
  have hn22 : n + 4 = n19 := by omega
  subst hn22
  have fx25 := (fr21 (a) (hq_ltn lt_f0 3) (hq_lt lt_f0 2)).trans ((o17 (a) (hq_lt lt_f0 2)).trans (e13))
  have fx25 : V18 (a) = some (.inr (5, [.int (0), .int (0), .int (0), .int (0), .int (0), .int (0), .int (0), .int (0), .ref (n), .null])) := fx25
  refine hp_putF hx hb hts hown hin hZ fx25 fp_X5_20 rfl rfl (Nat.le_of_ble_eq_true rfl) dX5_init_27 (fun V26 _ _ e27 o28 hZ => ?_)
  have e27 : V26 (a) = some (.inr (5, [.int (0), .int (0), .int (0), .int (0), .int (0), .int (0), .int (0), .int (0), .ref (n), .ref (n + 2)])) := e27
  have fx29 := (o28 (n) (hq_lt lt_f0 0).symm).trans ((fr21 (n) (hq_lts n 0 3 (by decide)) (hq_ne n 0 2 (by decide))).trans ((o17 (n) (hq_ne n 0 2 (by decide))).trans ((o14 (n) (hq_lt lt_f0 0).symm).trans (g9))))
  have fx29 : V26 (n) = some (.inr (9, [.ref (n + 1), .int (0)])) := fx29
  have fx30 := (o28 (n + 1) (hq_lt lt_f0 1).symm).trans ((fr21 (n + 1) (hq_lts n 1 3 (by decide)) (hq_ne n 1 2 (by decide))).trans ((o17 (n + 1) (hq_ne n 1 2 (by decide))).trans ((o14 (n + 1) (hq_lt lt_f0 1).symm).trans (g10))))
  have fx30 : V26 (n + 1) = some (.inl (cs 0, 8, .inl (fun _ => 0))) := fx30
  have fx31 := (o28 (n + 2) (hq_lt lt_f0 2).symm).trans (g23)
  have fx31 : V26 (n + 2) = some (.inr (9, [.ref (n + 3), .int (0)])) := fx31
  have fx32 := (o28 (n + 3) (hq_lt lt_f0 3).symm).trans (g24)
  have fx32 : V26 (n + 3) = some (.inl (cs 0, 8, .inl (fun _ => 0))) := fx32
  exact hp_vret hx hb hr hlocks hZ ⟨rfl, e27, fx29, fx30, fx31, fx32, fun x hxn hxa => (o28 (x) hxa).trans ((fr21 (x) (hq_ltn hxn 3) (hq_lt hxn 2)).trans ((o17 (x) (hq_lt hxn 2)).trans ((o14 (x) hxa).trans ((fr7 (x) (hq_ltn hxn 1) (hq_lt hxn 0)).trans (o3 (x) (hq_lt hxn 0))))))⟩ dX5_init_30

set_option maxHeartbeats 4000000 in
set_option maxRecDepth 100000 in
theorem c_X2_init (l : Launch) (D : va_G) (cs : Nat → ClassId) (B : Nat) (V : hp_V) (n : Nat) (a : Nat) (f0 : V a = some (.inr (2, [.null, .null, .int (0)]))) : hp_M l yX2_init cX2_init 1 none ({ frames := 2, cells := 3, slots := 152, locals := 42 }) D cs B V n [.ref (a)] (hp_QV D cs B (fun V' n' => n' = n + 3 ∧ V' (a) = some (.inr (2, [.ref (n), .ref (n + 2), .int (0)])) ∧ V' (n) = some (.inr (9, [.ref (n + 1), .int (0)])) ∧ V' (n + 1) = some (.inl (cs 0, 30, .inl (fun _ => 0))) ∧ V' (n + 2) = some (.inl (cs 1, 120, .inl (fun _ => 0))) ∧ ∀ x, x < n → x ≠ a → V' x = V x)) 3 (152) := by
  refine hp_walk (R0 := RX2) (by decide) rfl ?_ (Nat.le_of_ble_eq_true rfl)
  intro p e s m below meth c ls hx hb hr hts hown hlocks hin hml hZ hl
  have hin : meth.name = "<init>" := hin
  have hl : lv_has ls 1 [(0, .ref (a))] := hl
  have lt_f0 := hZ.lt f0
  refine lv_aload_n hx hb dX2_init_0 rfl (lv_at hl 0 rfl) ?_
  refine W.objInit hx hb hown (hts _ oi_X2_3) (hts _ oi_i) (hts _ oi_c) rfl (by rw [hml]; exact hl.1) rfl dX2_init_1 (Nat.le_of_ble_eq_true rfl) (Nat.le_of_ble_eq_true rfl) ?_
  refine W.eq (g2 := F0 m 4 ls []) rfl ?_
  refine lv_aload_n hx hb dX2_init_4 rfl (lv_at hl 0 rfl) ?_
  refine hp_new hx hb hts hown hZ nw_X2_9 (Nat.le_of_ble_eq_true rfl) (Nat.le_of_ble_eq_true rfl) dX2_init_5 (fun V1 _ e2 o3 hZ => ?_)
  have e2 : V1 (n) = some (.inr (9, [.null, .int (0)])) := e2
  refine lv_dup hx hb dX2_init_8 rfl ?_
  refine lv_bipush (v := 30) hx hb dX2_init_9 (by decide) ?_
  refine hp_callv (hp_runN (As := [.int (30)]) (rest := [.ref (n), .ref (a)]) hx hb hml hown hts (c_X9_init l D cs B V1 (n + 1) (n) 30 30 (by decide) (by decide) (by decide) (by decide) e2) hZ cv_X2_11 rfl rfl ⟨Nat.le_of_ble_eq_true rfl, Nat.le_of_ble_eq_true rfl⟩ rfl hl.1 rfl (Nat.le_of_ble_eq_true rfl) dX2_init_11 ⟨(Nat.le_of_ble_eq_true rfl), (Nat.le_of_ble_eq_true rfl)⟩) hZ (fun V4 n5 _ _ hw6 hZ => ?_)
  obtain ⟨hn8, g9, g10, fr7⟩ := hw6
  have hn8 : n + 2 = n5 := by omega
  subst hn8
  have fx11 := (fr7 (a) (hq_ltn lt_f0 1) (hq_lt lt_f0 0)).trans ((o3 (a) (hq_lt lt_f0 0)).trans (f0))
  have fx11 : V4 (a) = some (.inr (2, [.null, .null, .int (0)])) := fx11
  refine hp_putF hx hb hts hown hin hZ fx11 fp_X2_14 rfl rfl (Nat.le_of_ble_eq_true rfl) dX2_init_14 (fun V12 _ _ e13 o14 hZ => ?_)
  have e13 : V12 (a) = some (.inr (2, [.ref (n), .null, .int (0)])) := e13
  refine lv_aload_n hx hb dX2_init_17 rfl (lv_at hl 0 rfl) ?_
  refine lv_bipush (v := 120) hx hb dX2_init_18 (by decide) ?_
  refine hp_newa (ty := .int) (t0 := 1) (cA := cs 1) (N := 120) (a0 := (120, .inl (fun _ => 0))) hx hb hts hZ rfl ac_int rfl rfl (fun _ => rfl) (by decide) (by decide) (by decide) (Nat.le_of_ble_eq_true rfl) (Nat.le_of_ble_eq_true rfl) dX2_init_20 (fun V15 _ e16 o17 hZ => ?_)
  have e16 : V15 (n + 2) = some (.inl (cs 1, 120, .inl (fun _ => 0))) := e16
  have fx18 := (o17 (a) (hq_lt lt_f0 2)).trans (e13)
  have fx18 : V15 (a) = some (.inr (2, [.ref (n), .null, .int (0)])) := fx18
  refine hp_putF hx hb hts hown hin hZ fx18 fp_X2_20 rfl rfl (Nat.le_of_ble_eq_true rfl) dX2_init_22 (fun V19 _ _ e20 o21 hZ => ?_)
  have e20 : V19 (a) = some (.inr (2, [.ref (n), .ref (n + 2), .int (0)])) := e20
  have fx22 := (o21 (n) (hq_lt lt_f0 0).symm).trans ((o17 (n) (hq_ne n 0 2 (by decide))).trans ((o14 (n) (hq_lt lt_f0 0).symm).trans (g9)))
  have fx22 : V19 (n) = some (.inr (9, [.ref (n + 1), .int (0)])) := fx22
  have fx23 := (o21 (n + 1) (hq_lt lt_f0 1).symm).trans ((o17 (n + 1) (hq_ne n 1 2 (by decide))).trans ((o14 (n + 1) (hq_lt lt_f0 1).symm).trans (g10)))
  have fx23 : V19 (n + 1) = some (.inl (cs 0, 30, .inl (fun _ => 0))) := fx23
  have fx24 := (o21 (n + 2) (hq_lt lt_f0 2).symm).trans (e16)
  have fx24 : V19 (n + 2) = some (.inl (cs 1, 120, .inl (fun _ => 0))) := fx24
  exact hp_vret hx hb hr hlocks hZ ⟨rfl, e20, fx22, fx23, fx24, fun x hxn hxa => (o21 (x) hxa).trans ((o17 (x) (hq_lt hxn 2)).trans ((o14 (x) hxa).trans ((fr7 (x) (hq_ltn hxn 1) (hq_lt hxn 0)).trans (o3 (x) (hq_lt hxn 0)))))⟩ dX2_init_25

set_option maxHeartbeats 4000000 in
set_option maxRecDepth 100000 in
theorem c_X3_init_4 (l : Launch) (D : va_G) (cs : Nat → ClassId) (B : Nat) (V : hp_V) (n : Nat) (a : Nat) (f0 : V a = some (.inr (3, [.null, .int (0)]))) : hp_M l yX3_init cX3_init 3 none ({ frames := 3, cells := 17, slots := 624, locals := 62 }) D cs B V n [.ref (a), .int (4)] (hp_QV D cs B (fun V' n' => n' = n + 17 ∧ V' (a) = some (.inr (3, [.ref (n), .int (0)])) ∧ (∃ g : Nat → Option Nat, V' (n) = some (.inl (cs 4, 4, .inr (.inr (.inr (.inr (g)))))) ∧ g 0 = some (n + 1) ∧ g 1 = some (n + 5) ∧ g 2 = some (n + 9) ∧ g 3 = some (n + 13)) ∧ V' (n + 1) = some (.inr (2, [.ref (n + 2), .ref (n + 4), .int (0)])) ∧ V' (n + 2) = some (.inr (9, [.ref (n + 3), .int (0)])) ∧ V' (n + 3) = some (.inl (cs 0, 30, .inl (fun _ => 0))) ∧ V' (n + 4) = some (.inl (cs 1, 120, .inl (fun _ => 0))) ∧ V' (n + 5) = some (.inr (2, [.ref (n + 6), .ref (n + 8), .int (0)])) ∧ V' (n + 6) = some (.inr (9, [.ref (n + 7), .int (0)])) ∧ V' (n + 7) = some (.inl (cs 0, 30, .inl (fun _ => 0))) ∧ V' (n + 8) = some (.inl (cs 1, 120, .inl (fun _ => 0))) ∧ V' (n + 9) = some (.inr (2, [.ref (n + 10), .ref (n + 12), .int (0)])) ∧ V' (n + 10) = some (.inr (9, [.ref (n + 11), .int (0)])) ∧ V' (n + 11) = some (.inl (cs 0, 30, .inl (fun _ => 0))) ∧ V' (n + 12) = some (.inl (cs 1, 120, .inl (fun _ => 0))) ∧ V' (n + 13) = some (.inr (2, [.ref (n + 14), .ref (n + 16), .int (0)])) ∧ V' (n + 14) = some (.inr (9, [.ref (n + 15), .int (0)])) ∧ V' (n + 15) = some (.inl (cs 0, 30, .inl (fun _ => 0))) ∧ V' (n + 16) = some (.inl (cs 1, 120, .inl (fun _ => 0))) ∧ ∀ x, x < n → x ≠ a → V' x = V x)) 17 (624) := by
  refine hp_walk (R0 := RX3) (by decide) rfl ?_ (Nat.le_of_ble_eq_true rfl)
  intro p e s m below meth c ls hx hb hr hts hown hlocks hin hml hZ hl
  have hin : meth.name = "<init>" := hin
  have hl : lv_has ls 3 [(0, .ref (a)), (1, .int (4))] := hl
  have lt_f0 := hZ.lt f0
  refine lv_aload_n hx hb dX3_init_0 rfl (lv_at hl 0 rfl) ?_
  refine W.objInit hx hb hown (hts _ oi_X3_3) (hts _ oi_i) (hts _ oi_c) rfl (by rw [hml]; exact hl.1) rfl dX3_init_1 (Nat.le_of_ble_eq_true rfl) (Nat.le_of_ble_eq_true rfl) ?_
  refine W.eq (g2 := F0 m 4 ls []) rfl ?_
  refine lv_aload_n hx hb dX3_init_4 rfl (lv_at hl 0 rfl) ?_
  refine lv_iconst (v := 0) hx hb dX3_init_5 (by decide) ?_
  refine lv_iload_n hx hb dX3_init_6 rfl (lv_at hl 1 rfl) ?_
  refine va_mmax hx hb (hml.trans hl.1.symm) hown (hts _ lk_X3_9) (hts _ ms_max) (hts _ mi_math) (hts _ mk_max) (Nat.le_of_ble_eq_true rfl) (Nat.le_of_ble_eq_true rfl) (Nat.zero_le _) (Nat.zero_le _) dX3_init_7 ?_
  refine lv_topi (fun y1 ey2 => ?_)
  obtain rfl : y1 = 4 := ey2.trans (by decide)
  refine hp_newq (C := RX2) (t0 := 4) (cA := cs 4) (N := 4) hx hb hts hown hZ kl_X3_15 (fun h => h.2.1) rfl (by decide) (by decide) (by decide) (Nat.le_of_ble_eq_true rfl) (Nat.le_of_ble_eq_true rfl) dX3_init_10 (fun V3 _ e4 o5 hZ => ?_)
  have e4 : V3 (n) = some (.inl (cs 4, 4, .inr (.inr (.inr (.inr (fun _ => none)))))) := e4
  have fx6 := (o5 (a) (hq_lt lt_f0 0)).trans (f0)
  have fx6 : V3 (a) = some (.inr (3, [.null, .int (0)])) := fx6
  refine hp_putF hx hb hts hown hin hZ fx6 fp_X3_17 rfl rfl (Nat.le_of_ble_eq_true rfl) dX3_init_13 (fun V7 _ _ e8 o9 hZ => ?_)
  have e8 : V7 (a) = some (.inr (3, [.ref (n), .int (0)])) := e8
  refine lv_iconst (v := 0) hx hb dX3_init_16 (by decide) ?_
  refine lv_istore_n (lv' := [(2, .int (0)), (0, .ref (a)), (1, .int (4))]) hx hb dX3_init_17 rfl hl (by decide) rfl (fun ls hl => ?_)
  refine lv_iload_n hx hb dX3_init_18 rfl (lv_at hl 0 rfl) ?_
  refine lv_aload_n hx hb dX3_init_19 rfl (lv_at hl 1 rfl) ?_
  refine hp_get (v := .ref (n)) hx hb hts hown hZ e8 fl_X3_17 rfl dX3_init_20 ?_
  have fx10 := (o9 (n) (hq_lt lt_f0 0).symm).trans (e4)
  have fx10 : V7 (n) = some (.inl (cs 4, 4, .inr (.inr (.inr (.inr (fun _ => none)))))) := fx10
  refine hp_alen (v := 4) hx hb hZ 4 fx10 rfl rfl dX3_init_23 ?_
  refine lv_icmp_ge (tgt := 46) hx hb dX3_init_24 (by decide) (fun c11 => absurd c11 (by decide)) (fun c11 => ?_)
  refine lv_aload_n hx hb dX3_init_27 rfl (lv_at hl 1 rfl) ?_
  refine hp_get (v := .ref (n)) hx hb hts hown hZ e8 fl_X3_17 rfl dX3_init_28 ?_
  refine lv_iload_n hx hb dX3_init_31 rfl (lv_at hl 0 rfl) ?_
  refine hp_new hx hb hts hown hZ nw_X3_15 (Nat.le_of_ble_eq_true rfl) (Nat.le_of_ble_eq_true rfl) dX3_init_32 (fun V12 _ e13 o14 hZ => ?_)
  have e13 : V12 (n + 1) = some (.inr (2, [.null, .null, .int (0)])) := e13
  refine lv_dup hx hb dX3_init_35 rfl ?_
  refine hp_callv (hp_runN (As := []) (rest := [.ref (n + 1), .int (0), .ref (n)]) hx hb hml hown hts (c_X2_init l D cs B V12 (n + 2) (n + 1) e13) hZ cv_X3_23 rfl rfl ⟨Nat.le_of_ble_eq_true rfl, Nat.le_of_ble_eq_true rfl⟩ rfl hl.1 rfl (Nat.le_of_ble_eq_true rfl) dX3_init_36 ⟨(Nat.le_of_ble_eq_true rfl), (Nat.le_of_ble_eq_true rfl)⟩) hZ (fun V15 n16 _ _ hw17 hZ => ?_)
  obtain ⟨hn19, g20, g21, g22, g23, fr18⟩ := hw17
  have hn19 : n + 5 = n16 := by omega
  subst hn19
  have fx24 := (fr18 (n) (hq_lts n 0 2 (by decide)) (hq_ne n 0 1 (by decide))).trans ((o14 (n) (hq_ne n 0 1 (by decide))).trans (fx10))
  have fx24 : V15 (n) = some (.inl (cs 4, 4, .inr (.inr (.inr (.inr (fun _ => none)))))) := fx24
  refine hp_aast (r := (RX2, TX2, 3)) hx hb hZ 4 2 fx24 rfl g20 rfl (by unfold vp_in; decide) dX3_init_39 (fun V25 _ _ e26 o27 hZ => ?_)
  have e26 : V25 (n) = some (.inl (cs 4, 4, .inr (.inr (.inr (.inr (va_up (fun _ => none) ((0 : Int32).toNatClampNeg) (some (n + 1)))))))) := e26
  refine lv_iinc (v := 1) (lv' := [(2, .int (1)), (0, .ref (a)), (1, .int (4))]) hx hb dX3_init_40 hl (k := 0) rfl (by decide) (by decide) rfl (fun ls hl => ?_)
  refine lv_goto (tgt := 18) hx hb dX3_init_43 (by decide) ?_
  refine lv_iload_n hx hb dX3_init_18 rfl (lv_at hl 0 rfl) ?_
  refine lv_aload_n hx hb dX3_init_19 rfl (lv_at hl 1 rfl) ?_
  have fx28 := (o27 (a) (hq_lt lt_f0 0)).trans ((fr18 (a) (hq_ltn lt_f0 2) (hq_lt lt_f0 1)).trans ((o14 (a) (hq_lt lt_f0 1)).trans (e8)))
  have fx28 : V25 (a) = some (.inr (3, [.ref (n), .int (0)])) := fx28
  refine hp_get (v := .ref (n)) hx hb hts hown hZ fx28 fl_X3_17 rfl dX3_init_20 ?_
  refine hp_alen (v := 4) hx hb hZ 4 e26 rfl rfl dX3_init_23 ?_
  refine lv_icmp_ge (tgt := 46) hx hb dX3_init_24 (by decide) (fun c29 => absurd c29 (by decide)) (fun c29 => ?_)
  refine lv_aload_n hx hb dX3_init_27 rfl (lv_at hl 1 rfl) ?_
  refine hp_get (v := .ref (n)) hx hb hts hown hZ fx28 fl_X3_17 rfl dX3_init_28 ?_
  refine lv_iload_n hx hb dX3_init_31 rfl (lv_at hl 0 rfl) ?_
  refine hp_new hx hb hts hown hZ nw_X3_15 (Nat.le_of_ble_eq_true rfl) (Nat.le_of_ble_eq_true rfl) dX3_init_32 (fun V30 _ e31 o32 hZ => ?_)
  have e31 : V30 (n + 5) = some (.inr (2, [.null, .null, .int (0)])) := e31
  refine lv_dup hx hb dX3_init_35 rfl ?_
  refine hp_callv (hp_runN (As := []) (rest := [.ref (n + 5), .int (1), .ref (n)]) hx hb hml hown hts (c_X2_init l D cs B V30 (n + 6) (n + 5) e31) hZ cv_X3_23 rfl rfl ⟨Nat.le_of_ble_eq_true rfl, Nat.le_of_ble_eq_true rfl⟩ rfl hl.1 rfl (Nat.le_of_ble_eq_true rfl) dX3_init_36 ⟨(Nat.le_of_ble_eq_true rfl), (Nat.le_of_ble_eq_true rfl)⟩) hZ (fun V33 n34 _ _ hw35 hZ => ?_)
  obtain ⟨hn37, g38, g39, g40, g41, fr36⟩ := hw35
  have hn37 : n + 9 = n34 := by omega
  subst hn37
  have fx42 := (fr36 (n) (hq_lts n 0 6 (by decide)) (hq_ne n 0 5 (by decide))).trans ((o32 (n) (hq_ne n 0 5 (by decide))).trans (e26))
  have fx42 : V33 (n) = some (.inl (cs 4, 4, .inr (.inr (.inr (.inr (va_up (fun _ => none) ((0 : Int32).toNatClampNeg) (some (n + 1)))))))) := fx42
  refine hp_aast (r := (RX2, TX2, 3)) hx hb hZ 4 2 fx42 rfl g38 rfl (by unfold vp_in; decide) dX3_init_39 (fun V43 _ _ e44 o45 hZ => ?_)
  have e44 : V43 (n) = some (.inl (cs 4, 4, .inr (.inr (.inr (.inr (va_up (va_up (fun _ => none) ((0 : Int32).toNatClampNeg) (some (n + 1))) ((1 : Int32).toNatClampNeg) (some (n + 5)))))))) := e44
  refine lv_iinc (v := 2) (lv' := [(2, .int (2)), (0, .ref (a)), (1, .int (4))]) hx hb dX3_init_40 hl (k := 0) rfl (by decide) (by decide) rfl (fun ls hl => ?_)
  refine lv_goto (tgt := 18) hx hb dX3_init_43 (by decide) ?_
  refine lv_iload_n hx hb dX3_init_18 rfl (lv_at hl 0 rfl) ?_
  refine lv_aload_n hx hb dX3_init_19 rfl (lv_at hl 1 rfl) ?_
  have fx46 := (o45 (a) (hq_lt lt_f0 0)).trans ((fr36 (a) (hq_ltn lt_f0 6) (hq_lt lt_f0 5)).trans ((o32 (a) (hq_lt lt_f0 5)).trans (fx28)))
  have fx46 : V43 (a) = some (.inr (3, [.ref (n), .int (0)])) := fx46
  refine hp_get (v := .ref (n)) hx hb hts hown hZ fx46 fl_X3_17 rfl dX3_init_20 ?_
  refine hp_alen (v := 4) hx hb hZ 4 e44 rfl rfl dX3_init_23 ?_
  refine lv_icmp_ge (tgt := 46) hx hb dX3_init_24 (by decide) (fun c47 => absurd c47 (by decide)) (fun c47 => ?_)
  refine lv_aload_n hx hb dX3_init_27 rfl (lv_at hl 1 rfl) ?_
  refine hp_get (v := .ref (n)) hx hb hts hown hZ fx46 fl_X3_17 rfl dX3_init_28 ?_
  refine lv_iload_n hx hb dX3_init_31 rfl (lv_at hl 0 rfl) ?_
  refine hp_new hx hb hts hown hZ nw_X3_15 (Nat.le_of_ble_eq_true rfl) (Nat.le_of_ble_eq_true rfl) dX3_init_32 (fun V48 _ e49 o50 hZ => ?_)
  have e49 : V48 (n + 9) = some (.inr (2, [.null, .null, .int (0)])) := e49
  refine lv_dup hx hb dX3_init_35 rfl ?_
  refine hp_callv (hp_runN (As := []) (rest := [.ref (n + 9), .int (2), .ref (n)]) hx hb hml hown hts (c_X2_init l D cs B V48 (n + 10) (n + 9) e49) hZ cv_X3_23 rfl rfl ⟨Nat.le_of_ble_eq_true rfl, Nat.le_of_ble_eq_true rfl⟩ rfl hl.1 rfl (Nat.le_of_ble_eq_true rfl) dX3_init_36 ⟨(Nat.le_of_ble_eq_true rfl), (Nat.le_of_ble_eq_true rfl)⟩) hZ (fun V51 n52 _ _ hw53 hZ => ?_)
  obtain ⟨hn55, g56, g57, g58, g59, fr54⟩ := hw53
  have hn55 : n + 13 = n52 := by omega
  subst hn55
  have fx60 := (fr54 (n) (hq_lts n 0 10 (by decide)) (hq_ne n 0 9 (by decide))).trans ((o50 (n) (hq_ne n 0 9 (by decide))).trans (e44))
  have fx60 : V51 (n) = some (.inl (cs 4, 4, .inr (.inr (.inr (.inr (va_up (va_up (fun _ => none) ((0 : Int32).toNatClampNeg) (some (n + 1))) ((1 : Int32).toNatClampNeg) (some (n + 5)))))))) := fx60
  refine hp_aast (r := (RX2, TX2, 3)) hx hb hZ 4 2 fx60 rfl g56 rfl (by unfold vp_in; decide) dX3_init_39 (fun V61 _ _ e62 o63 hZ => ?_)
  have e62 : V61 (n) = some (.inl (cs 4, 4, .inr (.inr (.inr (.inr (va_up (va_up (va_up (fun _ => none) ((0 : Int32).toNatClampNeg) (some (n + 1))) ((1 : Int32).toNatClampNeg) (some (n + 5))) ((2 : Int32).toNatClampNeg) (some (n + 9)))))))) := e62
  refine lv_iinc (v := 3) (lv' := [(2, .int (3)), (0, .ref (a)), (1, .int (4))]) hx hb dX3_init_40 hl (k := 0) rfl (by decide) (by decide) rfl (fun ls hl => ?_)
  refine lv_goto (tgt := 18) hx hb dX3_init_43 (by decide) ?_
  refine lv_iload_n hx hb dX3_init_18 rfl (lv_at hl 0 rfl) ?_
  refine lv_aload_n hx hb dX3_init_19 rfl (lv_at hl 1 rfl) ?_
  have fx64 := (o63 (a) (hq_lt lt_f0 0)).trans ((fr54 (a) (hq_ltn lt_f0 10) (hq_lt lt_f0 9)).trans ((o50 (a) (hq_lt lt_f0 9)).trans (fx46)))
  have fx64 : V61 (a) = some (.inr (3, [.ref (n), .int (0)])) := fx64
  refine hp_get (v := .ref (n)) hx hb hts hown hZ fx64 fl_X3_17 rfl dX3_init_20 ?_
  refine hp_alen (v := 4) hx hb hZ 4 e62 rfl rfl dX3_init_23 ?_
  refine lv_icmp_ge (tgt := 46) hx hb dX3_init_24 (by decide) (fun c65 => absurd c65 (by decide)) (fun c65 => ?_)
  refine lv_aload_n hx hb dX3_init_27 rfl (lv_at hl 1 rfl) ?_
  refine hp_get (v := .ref (n)) hx hb hts hown hZ fx64 fl_X3_17 rfl dX3_init_28 ?_
  refine lv_iload_n hx hb dX3_init_31 rfl (lv_at hl 0 rfl) ?_
  refine hp_new hx hb hts hown hZ nw_X3_15 (Nat.le_of_ble_eq_true rfl) (Nat.le_of_ble_eq_true rfl) dX3_init_32 (fun V66 _ e67 o68 hZ => ?_)
  have e67 : V66 (n + 13) = some (.inr (2, [.null, .null, .int (0)])) := e67
  refine lv_dup hx hb dX3_init_35 rfl ?_
  refine hp_callv (hp_runN (As := []) (rest := [.ref (n + 13), .int (3), .ref (n)]) hx hb hml hown hts (c_X2_init l D cs B V66 (n + 14) (n + 13) e67) hZ cv_X3_23 rfl rfl ⟨Nat.le_of_ble_eq_true rfl, Nat.le_of_ble_eq_true rfl⟩ rfl hl.1 rfl (Nat.le_of_ble_eq_true rfl) dX3_init_36 ⟨(Nat.le_of_ble_eq_true rfl), (Nat.le_of_ble_eq_true rfl)⟩) hZ (fun V69 n70 _ _ hw71 hZ => ?_)
  obtain ⟨hn73, g74, g75, g76, g77, fr72⟩ := hw71
  have hn73 : n + 17 = n70 := by omega
  subst hn73
  have fx78 := (fr72 (n) (hq_lts n 0 14 (by decide)) (hq_ne n 0 13 (by decide))).trans ((o68 (n) (hq_ne n 0 13 (by decide))).trans (e62))
  have fx78 : V69 (n) = some (.inl (cs 4, 4, .inr (.inr (.inr (.inr (va_up (va_up (va_up (fun _ => none) ((0 : Int32).toNatClampNeg) (some (n + 1))) ((1 : Int32).toNatClampNeg) (some (n + 5))) ((2 : Int32).toNatClampNeg) (some (n + 9)))))))) := fx78
  refine hp_aast (r := (RX2, TX2, 3)) hx hb hZ 4 2 fx78 rfl g74 rfl (by unfold vp_in; decide) dX3_init_39 (fun V79 _ _ e80 o81 hZ => ?_)
  have e80 : V79 (n) = some (.inl (cs 4, 4, .inr (.inr (.inr (.inr (va_up (va_up (va_up (va_up (fun _ => none) ((0 : Int32).toNatClampNeg) (some (n + 1))) ((1 : Int32).toNatClampNeg) (some (n + 5))) ((2 : Int32).toNatClampNeg) (some (n + 9))) ((3 : Int32).toNatClampNeg) (some (n + 13)))))))) := e80
  refine lv_iinc (v := 4) (lv' := [(2, .int (4)), (0, .ref (a)), (1, .int (4))]) hx hb dX3_init_40 hl (k := 0) rfl (by decide) (by decide) rfl (fun ls hl => ?_)
  refine lv_goto (tgt := 18) hx hb dX3_init_43 (by decide) ?_
  refine lv_iload_n hx hb dX3_init_18 rfl (lv_at hl 0 rfl) ?_
  refine lv_aload_n hx hb dX3_init_19 rfl (lv_at hl 1 rfl) ?_
  have fx82 := (o81 (a) (hq_lt lt_f0 0)).trans ((fr72 (a) (hq_ltn lt_f0 14) (hq_lt lt_f0 13)).trans ((o68 (a) (hq_lt lt_f0 13)).trans (fx64)))
  have fx82 : V79 (a) = some (.inr (3, [.ref (n), .int (0)])) := fx82
  refine hp_get (v := .ref (n)) hx hb hts hown hZ fx82 fl_X3_17 rfl dX3_init_20 ?_
  refine hp_alen (v := 4) hx hb hZ 4 e80 rfl rfl dX3_init_23 ?_
  refine lv_icmp_ge (tgt := 46) hx hb dX3_init_24 (by decide) (fun c83 => ?_) (fun c83 => absurd (by decide) c83)
  have fx84 := (o81 (n + 1) (hq_ne n 1 0 (by decide))).trans ((fr72 (n + 1) (hq_lts n 1 14 (by decide)) (hq_ne n 1 13 (by decide))).trans ((o68 (n + 1) (hq_ne n 1 13 (by decide))).trans ((o63 (n + 1) (hq_ne n 1 0 (by decide))).trans ((fr54 (n + 1) (hq_lts n 1 10 (by decide)) (hq_ne n 1 9 (by decide))).trans ((o50 (n + 1) (hq_ne n 1 9 (by decide))).trans ((o45 (n + 1) (hq_ne n 1 0 (by decide))).trans ((fr36 (n + 1) (hq_lts n 1 6 (by decide)) (hq_ne n 1 5 (by decide))).trans ((o32 (n + 1) (hq_ne n 1 5 (by decide))).trans ((o27 (n + 1) (hq_ne n 1 0 (by decide))).trans (g20))))))))))
  have fx84 : V79 (n + 1) = some (.inr (2, [.ref (n + 2), .ref (n + 4), .int (0)])) := fx84
  have fx85 := (o81 (n + 2) (hq_ne n 2 0 (by decide))).trans ((fr72 (n + 2) (hq_lts n 2 14 (by decide)) (hq_ne n 2 13 (by decide))).trans ((o68 (n + 2) (hq_ne n 2 13 (by decide))).trans ((o63 (n + 2) (hq_ne n 2 0 (by decide))).trans ((fr54 (n + 2) (hq_lts n 2 10 (by decide)) (hq_ne n 2 9 (by decide))).trans ((o50 (n + 2) (hq_ne n 2 9 (by decide))).trans ((o45 (n + 2) (hq_ne n 2 0 (by decide))).trans ((fr36 (n + 2) (hq_lts n 2 6 (by decide)) (hq_ne n 2 5 (by decide))).trans ((o32 (n + 2) (hq_ne n 2 5 (by decide))).trans ((o27 (n + 2) (hq_ne n 2 0 (by decide))).trans (g21))))))))))
  have fx85 : V79 (n + 2) = some (.inr (9, [.ref (n + 3), .int (0)])) := fx85
  have fx86 := (o81 (n + 3) (hq_ne n 3 0 (by decide))).trans ((fr72 (n + 3) (hq_lts n 3 14 (by decide)) (hq_ne n 3 13 (by decide))).trans ((o68 (n + 3) (hq_ne n 3 13 (by decide))).trans ((o63 (n + 3) (hq_ne n 3 0 (by decide))).trans ((fr54 (n + 3) (hq_lts n 3 10 (by decide)) (hq_ne n 3 9 (by decide))).trans ((o50 (n + 3) (hq_ne n 3 9 (by decide))).trans ((o45 (n + 3) (hq_ne n 3 0 (by decide))).trans ((fr36 (n + 3) (hq_lts n 3 6 (by decide)) (hq_ne n 3 5 (by decide))).trans ((o32 (n + 3) (hq_ne n 3 5 (by decide))).trans ((o27 (n + 3) (hq_ne n 3 0 (by decide))).trans (g22))))))))))
  have fx86 : V79 (n + 3) = some (.inl (cs 0, 30, .inl (fun _ => 0))) := fx86
  have fx87 := (o81 (n + 4) (hq_ne n 4 0 (by decide))).trans ((fr72 (n + 4) (hq_lts n 4 14 (by decide)) (hq_ne n 4 13 (by decide))).trans ((o68 (n + 4) (hq_ne n 4 13 (by decide))).trans ((o63 (n + 4) (hq_ne n 4 0 (by decide))).trans ((fr54 (n + 4) (hq_lts n 4 10 (by decide)) (hq_ne n 4 9 (by decide))).trans ((o50 (n + 4) (hq_ne n 4 9 (by decide))).trans ((o45 (n + 4) (hq_ne n 4 0 (by decide))).trans ((fr36 (n + 4) (hq_lts n 4 6 (by decide)) (hq_ne n 4 5 (by decide))).trans ((o32 (n + 4) (hq_ne n 4 5 (by decide))).trans ((o27 (n + 4) (hq_ne n 4 0 (by decide))).trans (g23))))))))))
  have fx87 : V79 (n + 4) = some (.inl (cs 1, 120, .inl (fun _ => 0))) := fx87
  have fx88 := (o81 (n + 5) (hq_ne n 5 0 (by decide))).trans ((fr72 (n + 5) (hq_lts n 5 14 (by decide)) (hq_ne n 5 13 (by decide))).trans ((o68 (n + 5) (hq_ne n 5 13 (by decide))).trans ((o63 (n + 5) (hq_ne n 5 0 (by decide))).trans ((fr54 (n + 5) (hq_lts n 5 10 (by decide)) (hq_ne n 5 9 (by decide))).trans ((o50 (n + 5) (hq_ne n 5 9 (by decide))).trans ((o45 (n + 5) (hq_ne n 5 0 (by decide))).trans (g38)))))))
  have fx88 : V79 (n + 5) = some (.inr (2, [.ref (n + 6), .ref (n + 8), .int (0)])) := fx88
  have fx89 := (o81 (n + 6) (hq_ne n 6 0 (by decide))).trans ((fr72 (n + 6) (hq_lts n 6 14 (by decide)) (hq_ne n 6 13 (by decide))).trans ((o68 (n + 6) (hq_ne n 6 13 (by decide))).trans ((o63 (n + 6) (hq_ne n 6 0 (by decide))).trans ((fr54 (n + 6) (hq_lts n 6 10 (by decide)) (hq_ne n 6 9 (by decide))).trans ((o50 (n + 6) (hq_ne n 6 9 (by decide))).trans ((o45 (n + 6) (hq_ne n 6 0 (by decide))).trans (g39)))))))
  have fx89 : V79 (n + 6) = some (.inr (9, [.ref (n + 7), .int (0)])) := fx89
  have fx90 := (o81 (n + 7) (hq_ne n 7 0 (by decide))).trans ((fr72 (n + 7) (hq_lts n 7 14 (by decide)) (hq_ne n 7 13 (by decide))).trans ((o68 (n + 7) (hq_ne n 7 13 (by decide))).trans ((o63 (n + 7) (hq_ne n 7 0 (by decide))).trans ((fr54 (n + 7) (hq_lts n 7 10 (by decide)) (hq_ne n 7 9 (by decide))).trans ((o50 (n + 7) (hq_ne n 7 9 (by decide))).trans ((o45 (n + 7) (hq_ne n 7 0 (by decide))).trans (g40)))))))
  have fx90 : V79 (n + 7) = some (.inl (cs 0, 30, .inl (fun _ => 0))) := fx90
  have fx91 := (o81 (n + 8) (hq_ne n 8 0 (by decide))).trans ((fr72 (n + 8) (hq_lts n 8 14 (by decide)) (hq_ne n 8 13 (by decide))).trans ((o68 (n + 8) (hq_ne n 8 13 (by decide))).trans ((o63 (n + 8) (hq_ne n 8 0 (by decide))).trans ((fr54 (n + 8) (hq_lts n 8 10 (by decide)) (hq_ne n 8 9 (by decide))).trans ((o50 (n + 8) (hq_ne n 8 9 (by decide))).trans ((o45 (n + 8) (hq_ne n 8 0 (by decide))).trans (g41)))))))
  have fx91 : V79 (n + 8) = some (.inl (cs 1, 120, .inl (fun _ => 0))) := fx91
  have fx92 := (o81 (n + 9) (hq_ne n 9 0 (by decide))).trans ((fr72 (n + 9) (hq_lts n 9 14 (by decide)) (hq_ne n 9 13 (by decide))).trans ((o68 (n + 9) (hq_ne n 9 13 (by decide))).trans ((o63 (n + 9) (hq_ne n 9 0 (by decide))).trans (g56))))
  have fx92 : V79 (n + 9) = some (.inr (2, [.ref (n + 10), .ref (n + 12), .int (0)])) := fx92
  have fx93 := (o81 (n + 10) (hq_ne n 10 0 (by decide))).trans ((fr72 (n + 10) (hq_lts n 10 14 (by decide)) (hq_ne n 10 13 (by decide))).trans ((o68 (n + 10) (hq_ne n 10 13 (by decide))).trans ((o63 (n + 10) (hq_ne n 10 0 (by decide))).trans (g57))))
  have fx93 : V79 (n + 10) = some (.inr (9, [.ref (n + 11), .int (0)])) := fx93
  have fx94 := (o81 (n + 11) (hq_ne n 11 0 (by decide))).trans ((fr72 (n + 11) (hq_lts n 11 14 (by decide)) (hq_ne n 11 13 (by decide))).trans ((o68 (n + 11) (hq_ne n 11 13 (by decide))).trans ((o63 (n + 11) (hq_ne n 11 0 (by decide))).trans (g58))))
  have fx94 : V79 (n + 11) = some (.inl (cs 0, 30, .inl (fun _ => 0))) := fx94
  have fx95 := (o81 (n + 12) (hq_ne n 12 0 (by decide))).trans ((fr72 (n + 12) (hq_lts n 12 14 (by decide)) (hq_ne n 12 13 (by decide))).trans ((o68 (n + 12) (hq_ne n 12 13 (by decide))).trans ((o63 (n + 12) (hq_ne n 12 0 (by decide))).trans (g59))))
  have fx95 : V79 (n + 12) = some (.inl (cs 1, 120, .inl (fun _ => 0))) := fx95
  have fx96 := (o81 (n + 13) (hq_ne n 13 0 (by decide))).trans (g74)
  have fx96 : V79 (n + 13) = some (.inr (2, [.ref (n + 14), .ref (n + 16), .int (0)])) := fx96
  have fx97 := (o81 (n + 14) (hq_ne n 14 0 (by decide))).trans (g75)
  have fx97 : V79 (n + 14) = some (.inr (9, [.ref (n + 15), .int (0)])) := fx97
  have fx98 := (o81 (n + 15) (hq_ne n 15 0 (by decide))).trans (g76)
  have fx98 : V79 (n + 15) = some (.inl (cs 0, 30, .inl (fun _ => 0))) := fx98
  have fx99 := (o81 (n + 16) (hq_ne n 16 0 (by decide))).trans (g77)
  have fx99 : V79 (n + 16) = some (.inl (cs 1, 120, .inl (fun _ => 0))) := fx99
  exact hp_vret hx hb hr hlocks hZ ⟨rfl, fx82, ⟨_, e80, rfl, rfl, rfl, rfl⟩, fx84, fx85, fx86, fx87, fx88, fx89, fx90, fx91, fx92, fx93, fx94, fx95, fx96, fx97, fx98, fx99, fun x hxn hxa => (o81 (x) (hq_lt hxn 0)).trans ((fr72 (x) (hq_ltn hxn 14) (hq_lt hxn 13)).trans ((o68 (x) (hq_lt hxn 13)).trans ((o63 (x) (hq_lt hxn 0)).trans ((fr54 (x) (hq_ltn hxn 10) (hq_lt hxn 9)).trans ((o50 (x) (hq_lt hxn 9)).trans ((o45 (x) (hq_lt hxn 0)).trans ((fr36 (x) (hq_ltn hxn 6) (hq_lt hxn 5)).trans ((o32 (x) (hq_lt hxn 5)).trans ((o27 (x) (hq_lt hxn 0)).trans ((fr18 (x) (hq_ltn hxn 2) (hq_lt hxn 1)).trans ((o14 (x) (hq_lt hxn 1)).trans ((o9 (x) hxa).trans (o5 (x) (hq_lt hxn 0))))))))))))))⟩ dX3_init_46

set_option maxHeartbeats 4000000 in
set_option maxRecDepth 100000 in
theorem c_X3_init_2 (l : Launch) (D : va_G) (cs : Nat → ClassId) (B : Nat) (V : hp_V) (n : Nat) (a : Nat) (f0 : V a = some (.inr (3, [.null, .int (0)]))) : hp_M l yX3_init cX3_init 3 none ({ frames := 3, cells := 9, slots := 312, locals := 62 }) D cs B V n [.ref (a), .int (2)] (hp_QV D cs B (fun V' n' => n' = n + 9 ∧ V' (a) = some (.inr (3, [.ref (n), .int (0)])) ∧ (∃ g : Nat → Option Nat, V' (n) = some (.inl (cs 4, 2, .inr (.inr (.inr (.inr (g)))))) ∧ g 0 = some (n + 1) ∧ g 1 = some (n + 5)) ∧ V' (n + 1) = some (.inr (2, [.ref (n + 2), .ref (n + 4), .int (0)])) ∧ V' (n + 2) = some (.inr (9, [.ref (n + 3), .int (0)])) ∧ V' (n + 3) = some (.inl (cs 0, 30, .inl (fun _ => 0))) ∧ V' (n + 4) = some (.inl (cs 1, 120, .inl (fun _ => 0))) ∧ V' (n + 5) = some (.inr (2, [.ref (n + 6), .ref (n + 8), .int (0)])) ∧ V' (n + 6) = some (.inr (9, [.ref (n + 7), .int (0)])) ∧ V' (n + 7) = some (.inl (cs 0, 30, .inl (fun _ => 0))) ∧ V' (n + 8) = some (.inl (cs 1, 120, .inl (fun _ => 0))) ∧ ∀ x, x < n → x ≠ a → V' x = V x)) 9 (312) := by
  refine hp_walk (R0 := RX3) (by decide) rfl ?_ (Nat.le_of_ble_eq_true rfl)
  intro p e s m below meth c ls hx hb hr hts hown hlocks hin hml hZ hl
  have hin : meth.name = "<init>" := hin
  have hl : lv_has ls 3 [(0, .ref (a)), (1, .int (2))] := hl
  have lt_f0 := hZ.lt f0
  refine lv_aload_n hx hb dX3_init_0 rfl (lv_at hl 0 rfl) ?_
  refine W.objInit hx hb hown (hts _ oi_X3_3) (hts _ oi_i) (hts _ oi_c) rfl (by rw [hml]; exact hl.1) rfl dX3_init_1 (Nat.le_of_ble_eq_true rfl) (Nat.le_of_ble_eq_true rfl) ?_
  refine W.eq (g2 := F0 m 4 ls []) rfl ?_
  refine lv_aload_n hx hb dX3_init_4 rfl (lv_at hl 0 rfl) ?_
  refine lv_iconst (v := 0) hx hb dX3_init_5 (by decide) ?_
  refine lv_iload_n hx hb dX3_init_6 rfl (lv_at hl 1 rfl) ?_
  refine va_mmax hx hb (hml.trans hl.1.symm) hown (hts _ lk_X3_9) (hts _ ms_max) (hts _ mi_math) (hts _ mk_max) (Nat.le_of_ble_eq_true rfl) (Nat.le_of_ble_eq_true rfl) (Nat.zero_le _) (Nat.zero_le _) dX3_init_7 ?_
  refine lv_topi (fun y1 ey2 => ?_)
  obtain rfl : y1 = 2 := ey2.trans (by decide)
  refine hp_newq (C := RX2) (t0 := 4) (cA := cs 4) (N := 2) hx hb hts hown hZ kl_X3_15 (fun h => h.2.1) rfl (by decide) (by decide) (by decide) (Nat.le_of_ble_eq_true rfl) (Nat.le_of_ble_eq_true rfl) dX3_init_10 (fun V3 _ e4 o5 hZ => ?_)
  have e4 : V3 (n) = some (.inl (cs 4, 2, .inr (.inr (.inr (.inr (fun _ => none)))))) := e4
  have fx6 := (o5 (a) (hq_lt lt_f0 0)).trans (f0)
  have fx6 : V3 (a) = some (.inr (3, [.null, .int (0)])) := fx6
  refine hp_putF hx hb hts hown hin hZ fx6 fp_X3_17 rfl rfl (Nat.le_of_ble_eq_true rfl) dX3_init_13 (fun V7 _ _ e8 o9 hZ => ?_)
  have e8 : V7 (a) = some (.inr (3, [.ref (n), .int (0)])) := e8
  refine lv_iconst (v := 0) hx hb dX3_init_16 (by decide) ?_
  refine lv_istore_n (lv' := [(2, .int (0)), (0, .ref (a)), (1, .int (2))]) hx hb dX3_init_17 rfl hl (by decide) rfl (fun ls hl => ?_)
  refine lv_iload_n hx hb dX3_init_18 rfl (lv_at hl 0 rfl) ?_
  refine lv_aload_n hx hb dX3_init_19 rfl (lv_at hl 1 rfl) ?_
  refine hp_get (v := .ref (n)) hx hb hts hown hZ e8 fl_X3_17 rfl dX3_init_20 ?_
  have fx10 := (o9 (n) (hq_lt lt_f0 0).symm).trans (e4)
  have fx10 : V7 (n) = some (.inl (cs 4, 2, .inr (.inr (.inr (.inr (fun _ => none)))))) := fx10
  refine hp_alen (v := 2) hx hb hZ 4 fx10 rfl rfl dX3_init_23 ?_
  refine lv_icmp_ge (tgt := 46) hx hb dX3_init_24 (by decide) (fun c11 => absurd c11 (by decide)) (fun c11 => ?_)
  refine lv_aload_n hx hb dX3_init_27 rfl (lv_at hl 1 rfl) ?_
  refine hp_get (v := .ref (n)) hx hb hts hown hZ e8 fl_X3_17 rfl dX3_init_28 ?_
  refine lv_iload_n hx hb dX3_init_31 rfl (lv_at hl 0 rfl) ?_
  refine hp_new hx hb hts hown hZ nw_X3_15 (Nat.le_of_ble_eq_true rfl) (Nat.le_of_ble_eq_true rfl) dX3_init_32 (fun V12 _ e13 o14 hZ => ?_)
  have e13 : V12 (n + 1) = some (.inr (2, [.null, .null, .int (0)])) := e13
  refine lv_dup hx hb dX3_init_35 rfl ?_
  refine hp_callv (hp_runN (As := []) (rest := [.ref (n + 1), .int (0), .ref (n)]) hx hb hml hown hts (c_X2_init l D cs B V12 (n + 2) (n + 1) e13) hZ cv_X3_23 rfl rfl ⟨Nat.le_of_ble_eq_true rfl, Nat.le_of_ble_eq_true rfl⟩ rfl hl.1 rfl (Nat.le_of_ble_eq_true rfl) dX3_init_36 ⟨(Nat.le_of_ble_eq_true rfl), (Nat.le_of_ble_eq_true rfl)⟩) hZ (fun V15 n16 _ _ hw17 hZ => ?_)
  obtain ⟨hn19, g20, g21, g22, g23, fr18⟩ := hw17
  have hn19 : n + 5 = n16 := by omega
  subst hn19
  have fx24 := (fr18 (n) (hq_lts n 0 2 (by decide)) (hq_ne n 0 1 (by decide))).trans ((o14 (n) (hq_ne n 0 1 (by decide))).trans (fx10))
  have fx24 : V15 (n) = some (.inl (cs 4, 2, .inr (.inr (.inr (.inr (fun _ => none)))))) := fx24
  refine hp_aast (r := (RX2, TX2, 3)) hx hb hZ 4 2 fx24 rfl g20 rfl (by unfold vp_in; decide) dX3_init_39 (fun V25 _ _ e26 o27 hZ => ?_)
  have e26 : V25 (n) = some (.inl (cs 4, 2, .inr (.inr (.inr (.inr (va_up (fun _ => none) ((0 : Int32).toNatClampNeg) (some (n + 1)))))))) := e26
  refine lv_iinc (v := 1) (lv' := [(2, .int (1)), (0, .ref (a)), (1, .int (2))]) hx hb dX3_init_40 hl (k := 0) rfl (by decide) (by decide) rfl (fun ls hl => ?_)
  refine lv_goto (tgt := 18) hx hb dX3_init_43 (by decide) ?_
  refine lv_iload_n hx hb dX3_init_18 rfl (lv_at hl 0 rfl) ?_
  refine lv_aload_n hx hb dX3_init_19 rfl (lv_at hl 1 rfl) ?_
  have fx28 := (o27 (a) (hq_lt lt_f0 0)).trans ((fr18 (a) (hq_ltn lt_f0 2) (hq_lt lt_f0 1)).trans ((o14 (a) (hq_lt lt_f0 1)).trans (e8)))
  have fx28 : V25 (a) = some (.inr (3, [.ref (n), .int (0)])) := fx28
  refine hp_get (v := .ref (n)) hx hb hts hown hZ fx28 fl_X3_17 rfl dX3_init_20 ?_
  refine hp_alen (v := 2) hx hb hZ 4 e26 rfl rfl dX3_init_23 ?_
  refine lv_icmp_ge (tgt := 46) hx hb dX3_init_24 (by decide) (fun c29 => absurd c29 (by decide)) (fun c29 => ?_)
  refine lv_aload_n hx hb dX3_init_27 rfl (lv_at hl 1 rfl) ?_
  refine hp_get (v := .ref (n)) hx hb hts hown hZ fx28 fl_X3_17 rfl dX3_init_28 ?_
  refine lv_iload_n hx hb dX3_init_31 rfl (lv_at hl 0 rfl) ?_
  refine hp_new hx hb hts hown hZ nw_X3_15 (Nat.le_of_ble_eq_true rfl) (Nat.le_of_ble_eq_true rfl) dX3_init_32 (fun V30 _ e31 o32 hZ => ?_)
  have e31 : V30 (n + 5) = some (.inr (2, [.null, .null, .int (0)])) := e31
  refine lv_dup hx hb dX3_init_35 rfl ?_
  refine hp_callv (hp_runN (As := []) (rest := [.ref (n + 5), .int (1), .ref (n)]) hx hb hml hown hts (c_X2_init l D cs B V30 (n + 6) (n + 5) e31) hZ cv_X3_23 rfl rfl ⟨Nat.le_of_ble_eq_true rfl, Nat.le_of_ble_eq_true rfl⟩ rfl hl.1 rfl (Nat.le_of_ble_eq_true rfl) dX3_init_36 ⟨(Nat.le_of_ble_eq_true rfl), (Nat.le_of_ble_eq_true rfl)⟩) hZ (fun V33 n34 _ _ hw35 hZ => ?_)
  obtain ⟨hn37, g38, g39, g40, g41, fr36⟩ := hw35
  have hn37 : n + 9 = n34 := by omega
  subst hn37
  have fx42 := (fr36 (n) (hq_lts n 0 6 (by decide)) (hq_ne n 0 5 (by decide))).trans ((o32 (n) (hq_ne n 0 5 (by decide))).trans (e26))
  have fx42 : V33 (n) = some (.inl (cs 4, 2, .inr (.inr (.inr (.inr (va_up (fun _ => none) ((0 : Int32).toNatClampNeg) (some (n + 1)))))))) := fx42
  refine hp_aast (r := (RX2, TX2, 3)) hx hb hZ 4 2 fx42 rfl g38 rfl (by unfold vp_in; decide) dX3_init_39 (fun V43 _ _ e44 o45 hZ => ?_)
  have e44 : V43 (n) = some (.inl (cs 4, 2, .inr (.inr (.inr (.inr (va_up (va_up (fun _ => none) ((0 : Int32).toNatClampNeg) (some (n + 1))) ((1 : Int32).toNatClampNeg) (some (n + 5)))))))) := e44
  refine lv_iinc (v := 2) (lv' := [(2, .int (2)), (0, .ref (a)), (1, .int (2))]) hx hb dX3_init_40 hl (k := 0) rfl (by decide) (by decide) rfl (fun ls hl => ?_)
  refine lv_goto (tgt := 18) hx hb dX3_init_43 (by decide) ?_
  refine lv_iload_n hx hb dX3_init_18 rfl (lv_at hl 0 rfl) ?_
  refine lv_aload_n hx hb dX3_init_19 rfl (lv_at hl 1 rfl) ?_
  have fx46 := (o45 (a) (hq_lt lt_f0 0)).trans ((fr36 (a) (hq_ltn lt_f0 6) (hq_lt lt_f0 5)).trans ((o32 (a) (hq_lt lt_f0 5)).trans (fx28)))
  have fx46 : V43 (a) = some (.inr (3, [.ref (n), .int (0)])) := fx46
  refine hp_get (v := .ref (n)) hx hb hts hown hZ fx46 fl_X3_17 rfl dX3_init_20 ?_
  refine hp_alen (v := 2) hx hb hZ 4 e44 rfl rfl dX3_init_23 ?_
  refine lv_icmp_ge (tgt := 46) hx hb dX3_init_24 (by decide) (fun c47 => ?_) (fun c47 => absurd (by decide) c47)
  have fx48 := (o45 (n + 1) (hq_ne n 1 0 (by decide))).trans ((fr36 (n + 1) (hq_lts n 1 6 (by decide)) (hq_ne n 1 5 (by decide))).trans ((o32 (n + 1) (hq_ne n 1 5 (by decide))).trans ((o27 (n + 1) (hq_ne n 1 0 (by decide))).trans (g20))))
  have fx48 : V43 (n + 1) = some (.inr (2, [.ref (n + 2), .ref (n + 4), .int (0)])) := fx48
  have fx49 := (o45 (n + 2) (hq_ne n 2 0 (by decide))).trans ((fr36 (n + 2) (hq_lts n 2 6 (by decide)) (hq_ne n 2 5 (by decide))).trans ((o32 (n + 2) (hq_ne n 2 5 (by decide))).trans ((o27 (n + 2) (hq_ne n 2 0 (by decide))).trans (g21))))
  have fx49 : V43 (n + 2) = some (.inr (9, [.ref (n + 3), .int (0)])) := fx49
  have fx50 := (o45 (n + 3) (hq_ne n 3 0 (by decide))).trans ((fr36 (n + 3) (hq_lts n 3 6 (by decide)) (hq_ne n 3 5 (by decide))).trans ((o32 (n + 3) (hq_ne n 3 5 (by decide))).trans ((o27 (n + 3) (hq_ne n 3 0 (by decide))).trans (g22))))
  have fx50 : V43 (n + 3) = some (.inl (cs 0, 30, .inl (fun _ => 0))) := fx50
  have fx51 := (o45 (n + 4) (hq_ne n 4 0 (by decide))).trans ((fr36 (n + 4) (hq_lts n 4 6 (by decide)) (hq_ne n 4 5 (by decide))).trans ((o32 (n + 4) (hq_ne n 4 5 (by decide))).trans ((o27 (n + 4) (hq_ne n 4 0 (by decide))).trans (g23))))
  have fx51 : V43 (n + 4) = some (.inl (cs 1, 120, .inl (fun _ => 0))) := fx51
  have fx52 := (o45 (n + 5) (hq_ne n 5 0 (by decide))).trans (g38)
  have fx52 : V43 (n + 5) = some (.inr (2, [.ref (n + 6), .ref (n + 8), .int (0)])) := fx52
  have fx53 := (o45 (n + 6) (hq_ne n 6 0 (by decide))).trans (g39)
  have fx53 : V43 (n + 6) = some (.inr (9, [.ref (n + 7), .int (0)])) := fx53
  have fx54 := (o45 (n + 7) (hq_ne n 7 0 (by decide))).trans (g40)
  have fx54 : V43 (n + 7) = some (.inl (cs 0, 30, .inl (fun _ => 0))) := fx54
  have fx55 := (o45 (n + 8) (hq_ne n 8 0 (by decide))).trans (g41)
  have fx55 : V43 (n + 8) = some (.inl (cs 1, 120, .inl (fun _ => 0))) := fx55
  exact hp_vret hx hb hr hlocks hZ ⟨rfl, fx46, ⟨_, e44, rfl, rfl⟩, fx48, fx49, fx50, fx51, fx52, fx53, fx54, fx55, fun x hxn hxa => (o45 (x) (hq_lt hxn 0)).trans ((fr36 (x) (hq_ltn hxn 6) (hq_lt hxn 5)).trans ((o32 (x) (hq_lt hxn 5)).trans ((o27 (x) (hq_lt hxn 0)).trans ((fr18 (x) (hq_ltn hxn 2) (hq_lt hxn 1)).trans ((o14 (x) (hq_lt hxn 1)).trans ((o9 (x) hxa).trans (o5 (x) (hq_lt hxn 0))))))))⟩ dX3_init_46

set_option maxHeartbeats 4000000 in
set_option maxRecDepth 100000 in
theorem c_X4_init (l : Launch) (D : va_G) (cs : Nat → ClassId) (B : Nat) (V : hp_V) (n : Nat) (a : Nat) (f0 : V a = some (.inr (4, [.null, .null]))) : hp_M l yX4_init cX4_init 1 none ({ frames := 1, cells := 2, slots := 63, locals := 21 }) D cs B V n [.ref (a)] (hp_QV D cs B (fun V' n' => n' = n + 2 ∧ V' (a) = some (.inr (4, [.ref (n), .ref (n + 1)])) ∧ V' (n) = some (.inl (cs 1, 60, .inl (fun _ => 0))) ∧ (∃ g : Nat → Int32, V' (n + 1) = some (.inl (cs 1, 3, .inl (g))) ∧ g 0 = -1 ∧ g 1 = -1 ∧ g 2 = -1) ∧ ∀ x, x < n → x ≠ a → V' x = V x)) 2 (63) := by
  refine hp_walk (R0 := RX4) (by decide) rfl ?_ (Nat.le_of_ble_eq_true rfl)
  intro p e s m below meth c ls hx hb hr hts hown hlocks hin hml hZ hl
  have hin : meth.name = "<init>" := hin
  have hl : lv_has ls 1 [(0, .ref (a))] := hl
  have lt_f0 := hZ.lt f0
  refine lv_aload_n hx hb dX4_init_0 rfl (lv_at hl 0 rfl) ?_
  refine W.objInit hx hb hown (hts _ oi_X4_3) (hts _ oi_i) (hts _ oi_c) rfl (by rw [hml]; exact hl.1) rfl dX4_init_1 (Nat.le_of_ble_eq_true rfl) (Nat.le_of_ble_eq_true rfl) ?_
  refine W.eq (g2 := F0 m 4 ls []) rfl ?_
  refine lv_aload_n hx hb dX4_init_4 rfl (lv_at hl 0 rfl) ?_
  refine lv_bipush (v := 60) hx hb dX4_init_5 (by decide) ?_
  refine hp_newa (ty := .int) (t0 := 1) (cA := cs 1) (N := 60) (a0 := (60, .inl (fun _ => 0))) hx hb hts hZ rfl ac_int rfl rfl (fun _ => rfl) (by decide) (by decide) (by decide) (Nat.le_of_ble_eq_true rfl) (Nat.le_of_ble_eq_true rfl) dX4_init_7 (fun V1 _ e2 o3 hZ => ?_)
  have e2 : V1 (n) = some (.inl (cs 1, 60, .inl (fun _ => 0))) := e2
  have fx4 := (o3 (a) (hq_lt lt_f0 0)).trans (f0)
  have fx4 : V1 (a) = some (.inr (4, [.null, .null])) := fx4
  refine hp_putF hx hb hts hown hin hZ fx4 fp_X4_9 rfl rfl (Nat.le_of_ble_eq_true rfl) dX4_init_9 (fun V5 _ _ e6 o7 hZ => ?_)
  have e6 : V5 (a) = some (.inr (4, [.ref (n), .null])) := e6
  refine lv_aload_n hx hb dX4_init_12 rfl (lv_at hl 0 rfl) ?_
  refine lv_iconst (v := 3) hx hb dX4_init_13 (by decide) ?_
  refine hp_newa (ty := .int) (t0 := 1) (cA := cs 1) (N := 3) (a0 := (3, .inl (fun _ => 0))) hx hb hts hZ rfl ac_int rfl rfl (fun _ => rfl) (by decide) (by decide) (by decide) (Nat.le_of_ble_eq_true rfl) (Nat.le_of_ble_eq_true rfl) dX4_init_14 (fun V8 _ e9 o10 hZ => ?_)
  have e9 : V8 (n + 1) = some (.inl (cs 1, 3, .inl (fun _ => 0))) := e9
  refine lv_dup hx hb dX4_init_16 rfl ?_
  refine lv_iconst (v := 0) hx hb dX4_init_17 (by decide) ?_
  refine lv_iconst (v := -1) hx hb dX4_init_18 (by decide) ?_
  refine hp_iast hx hb hZ e9 (by unfold vp_in; decide) dX4_init_19 (fun V11 _ _ e12 o13 hZ => ?_)
  have e12 : V11 (n + 1) = some (.inl (cs 1, 3, .inl (upd (fun _ => 0) ((0 : Int32).toNatClampNeg) (-1)))) := e12
  refine lv_dup hx hb dX4_init_20 rfl ?_
  refine lv_iconst (v := 1) hx hb dX4_init_21 (by decide) ?_
  refine lv_iconst (v := -1) hx hb dX4_init_22 (by decide) ?_
  refine hp_iast hx hb hZ e12 (by unfold vp_in; decide) dX4_init_23 (fun V14 _ _ e15 o16 hZ => ?_)
  have e15 : V14 (n + 1) = some (.inl (cs 1, 3, .inl (upd (upd (fun _ => 0) ((0 : Int32).toNatClampNeg) (-1)) ((1 : Int32).toNatClampNeg) (-1)))) := e15
  refine lv_dup hx hb dX4_init_24 rfl ?_
  refine lv_iconst (v := 2) hx hb dX4_init_25 (by decide) ?_
  refine lv_iconst (v := -1) hx hb dX4_init_26 (by decide) ?_
  refine hp_iast hx hb hZ e15 (by unfold vp_in; decide) dX4_init_27 (fun V17 _ _ e18 o19 hZ => ?_)
  have e18 : V17 (n + 1) = some (.inl (cs 1, 3, .inl (upd (upd (upd (fun _ => 0) ((0 : Int32).toNatClampNeg) (-1)) ((1 : Int32).toNatClampNeg) (-1)) ((2 : Int32).toNatClampNeg) (-1)))) := e18
  have fx20 := (o19 (a) (hq_lt lt_f0 1)).trans ((o16 (a) (hq_lt lt_f0 1)).trans ((o13 (a) (hq_lt lt_f0 1)).trans ((o10 (a) (hq_lt lt_f0 1)).trans (e6))))
  have fx20 : V17 (a) = some (.inr (4, [.ref (n), .null])) := fx20
  refine hp_putF hx hb hts hown hin hZ fx20 fp_X4_15 rfl rfl (Nat.le_of_ble_eq_true rfl) dX4_init_28 (fun V21 _ _ e22 o23 hZ => ?_)
  have e22 : V21 (a) = some (.inr (4, [.ref (n), .ref (n + 1)])) := e22
  have fx24 := (o23 (n) (hq_lt lt_f0 0).symm).trans ((o19 (n) (hq_ne n 0 1 (by decide))).trans ((o16 (n) (hq_ne n 0 1 (by decide))).trans ((o13 (n) (hq_ne n 0 1 (by decide))).trans ((o10 (n) (hq_ne n 0 1 (by decide))).trans ((o7 (n) (hq_lt lt_f0 0).symm).trans (e2))))))
  have fx24 : V21 (n) = some (.inl (cs 1, 60, .inl (fun _ => 0))) := fx24
  have fx25 := (o23 (n + 1) (hq_lt lt_f0 1).symm).trans (e18)
  have fx25 : V21 (n + 1) = some (.inl (cs 1, 3, .inl (upd (upd (upd (fun _ => 0) ((0 : Int32).toNatClampNeg) (-1)) ((1 : Int32).toNatClampNeg) (-1)) ((2 : Int32).toNatClampNeg) (-1)))) := fx25
  exact hp_vret hx hb hr hlocks hZ ⟨rfl, e22, fx24, ⟨_, fx25, rfl, rfl, rfl⟩, fun x hxn hxa => (o23 (x) hxa).trans ((o19 (x) (hq_lt hxn 1)).trans ((o16 (x) (hq_lt hxn 1)).trans ((o13 (x) (hq_lt hxn 1)).trans ((o10 (x) (hq_lt hxn 1)).trans ((o7 (x) hxa).trans (o3 (x) (hq_lt hxn 0)))))))⟩ dX4_init_31

set_option maxHeartbeats 4000000 in
set_option maxRecDepth 100000 in
theorem c_X8_init (l : Launch) (D : va_G) (cs : Nat → ClassId) (B : Nat) (V : hp_V) (n : Nat) (a : Nat) (f0 : V a = some (.inr (8, [.int (0), .null, .null, .null]))) : hp_M l yX8_init cX8_init 1 none ({ frames := 1, cells := 3, slots := 2700, locals := 21 }) D cs B V n [.ref (a)] (hp_QV D cs B (fun V' n' => n' = n + 3 ∧ V' (a) = some (.inr (8, [.int (0), .ref (n), .ref (n + 1), .ref (n + 2)])) ∧ V' (n) = some (.inl (cs 2, 900, .inr (.inl (fun _ => 0)))) ∧ V' (n + 1) = some (.inl (cs 2, 900, .inr (.inl (fun _ => 0)))) ∧ V' (n + 2) = some (.inl (cs 2, 900, .inr (.inl (fun _ => 0)))) ∧ ∀ x, x < n → x ≠ a → V' x = V x)) 3 (2700) := by
  refine hp_walk (R0 := RX8) (by decide) rfl ?_ (Nat.le_of_ble_eq_true rfl)
  intro p e s m below meth c ls hx hb hr hts hown hlocks hin hml hZ hl
  have hin : meth.name = "<init>" := hin
  have hl : lv_has ls 1 [(0, .ref (a))] := hl
  have lt_f0 := hZ.lt f0
  refine lv_aload_n hx hb dX8_init_0 rfl (lv_at hl 0 rfl) ?_
  refine W.objInit hx hb hown (hts _ oi_X8_3) (hts _ oi_i) (hts _ oi_c) rfl (by rw [hml]; exact hl.1) rfl dX8_init_1 (Nat.le_of_ble_eq_true rfl) (Nat.le_of_ble_eq_true rfl) ?_
  refine W.eq (g2 := F0 m 4 ls []) rfl ?_
  refine lv_aload_n hx hb dX8_init_4 rfl (lv_at hl 0 rfl) ?_
  refine lv_sipush (v := 900) hx hb dX8_init_5 (by decide) ?_
  refine hp_newa (ty := .long) (t0 := 2) (cA := cs 2) (N := 900) (a0 := (900, .inr (.inl (fun _ => 0)))) hx hb hts hZ rfl ac_long rfl rfl (fun _ => rfl) (by decide) (by decide) (by decide) (Nat.le_of_ble_eq_true rfl) (Nat.le_of_ble_eq_true rfl) dX8_init_8 (fun V1 _ e2 o3 hZ => ?_)
  have e2 : V1 (n) = some (.inl (cs 2, 900, .inr (.inl (fun _ => 0)))) := e2
  have fx4 := (o3 (a) (hq_lt lt_f0 0)).trans (f0)
  have fx4 : V1 (a) = some (.inr (8, [.int (0), .null, .null, .null])) := fx4
  refine hp_putF hx hb hts hown hin hZ fx4 fp_X8_9 rfl rfl (Nat.le_of_ble_eq_true rfl) dX8_init_10 (fun V5 _ _ e6 o7 hZ => ?_)
  have e6 : V5 (a) = some (.inr (8, [.int (0), .ref (n), .null, .null])) := e6
  refine lv_aload_n hx hb dX8_init_13 rfl (lv_at hl 0 rfl) ?_
  refine lv_sipush (v := 900) hx hb dX8_init_14 (by decide) ?_
  refine hp_newa (ty := .long) (t0 := 2) (cA := cs 2) (N := 900) (a0 := (900, .inr (.inl (fun _ => 0)))) hx hb hts hZ rfl ac_long rfl rfl (fun _ => rfl) (by decide) (by decide) (by decide) (Nat.le_of_ble_eq_true rfl) (Nat.le_of_ble_eq_true rfl) dX8_init_17 (fun V8 _ e9 o10 hZ => ?_)
  have e9 : V8 (n + 1) = some (.inl (cs 2, 900, .inr (.inl (fun _ => 0)))) := e9
  have fx11 := (o10 (a) (hq_lt lt_f0 1)).trans (e6)
  have fx11 : V8 (a) = some (.inr (8, [.int (0), .ref (n), .null, .null])) := fx11
  refine hp_putF hx hb hts hown hin hZ fx11 fp_X8_15 rfl rfl (Nat.le_of_ble_eq_true rfl) dX8_init_19 (fun V12 _ _ e13 o14 hZ => ?_)
  have e13 : V12 (a) = some (.inr (8, [.int (0), .ref (n), .ref (n + 1), .null])) := e13
  refine lv_aload_n hx hb dX8_init_22 rfl (lv_at hl 0 rfl) ?_
  refine lv_sipush (v := 900) hx hb dX8_init_23 (by decide) ?_
  refine hp_newa (ty := .long) (t0 := 2) (cA := cs 2) (N := 900) (a0 := (900, .inr (.inl (fun _ => 0)))) hx hb hts hZ rfl ac_long rfl rfl (fun _ => rfl) (by decide) (by decide) (by decide) (Nat.le_of_ble_eq_true rfl) (Nat.le_of_ble_eq_true rfl) dX8_init_26 (fun V15 _ e16 o17 hZ => ?_)
  have e16 : V15 (n + 2) = some (.inl (cs 2, 900, .inr (.inl (fun _ => 0)))) := e16
  have fx18 := (o17 (a) (hq_lt lt_f0 2)).trans (e13)
  have fx18 : V15 (a) = some (.inr (8, [.int (0), .ref (n), .ref (n + 1), .null])) := fx18
  refine hp_putF hx hb hts hown hin hZ fx18 fp_X8_18 rfl rfl (Nat.le_of_ble_eq_true rfl) dX8_init_28 (fun V19 _ _ e20 o21 hZ => ?_)
  have e20 : V19 (a) = some (.inr (8, [.int (0), .ref (n), .ref (n + 1), .ref (n + 2)])) := e20
  have fx22 := (o21 (n) (hq_lt lt_f0 0).symm).trans ((o17 (n) (hq_ne n 0 2 (by decide))).trans ((o14 (n) (hq_lt lt_f0 0).symm).trans ((o10 (n) (hq_ne n 0 1 (by decide))).trans ((o7 (n) (hq_lt lt_f0 0).symm).trans (e2)))))
  have fx22 : V19 (n) = some (.inl (cs 2, 900, .inr (.inl (fun _ => 0)))) := fx22
  have fx23 := (o21 (n + 1) (hq_lt lt_f0 1).symm).trans ((o17 (n + 1) (hq_ne n 1 2 (by decide))).trans ((o14 (n + 1) (hq_lt lt_f0 1).symm).trans (e9)))
  have fx23 : V19 (n + 1) = some (.inl (cs 2, 900, .inr (.inl (fun _ => 0)))) := fx23
  have fx24 := (o21 (n + 2) (hq_lt lt_f0 2).symm).trans (e16)
  have fx24 : V19 (n + 2) = some (.inl (cs 2, 900, .inr (.inl (fun _ => 0)))) := fx24
  exact hp_vret hx hb hr hlocks hZ ⟨rfl, e20, fx22, fx23, fx24, fun x hxn hxa => (o21 (x) hxa).trans ((o17 (x) (hq_lt hxn 2)).trans ((o14 (x) hxa).trans ((o10 (x) (hq_lt hxn 1)).trans ((o7 (x) hxa).trans (o3 (x) (hq_lt hxn 0))))))⟩ dX8_init_31

set_option maxHeartbeats 4000000 in
set_option maxRecDepth 100000 in
theorem c_X7_init (l : Launch) (D : va_G) (cs : Nat → ClassId) (B : Nat) (V : hp_V) (n : Nat) (a : Nat) (f0 : V a = some (.inr (7, [.int (0), .int (0), .null, .null, .int (0), .int (0), .int (0), .null]))) : hp_M l yX7_init cX7_init 1 none ({ frames := 2, cells := 2, slots := 14, locals := 42 }) D cs B V n [.ref (a)] (hp_QV D cs B (fun V' n' => n' = n + 2 ∧ V' (a) = some (.inr (7, [.int (0), .int (-1), .null, .null, .int (0), .int (0), .int (0), .ref (n)])) ∧ V' (n) = some (.inr (9, [.ref (n + 1), .int (0)])) ∧ V' (n + 1) = some (.inl (cs 0, 12, .inl (fun _ => 0))) ∧ ∀ x, x < n → x ≠ a → V' x = V x)) 2 (14) := by
  refine hp_walk (R0 := RX7) (by decide) rfl ?_ (Nat.le_of_ble_eq_true rfl)
  intro p e s m below meth c ls hx hb hr hts hown hlocks hin hml hZ hl
  have hin : meth.name = "<init>" := hin
  have hl : lv_has ls 1 [(0, .ref (a))] := hl
  have lt_f0 := hZ.lt f0
  refine lv_aload_n hx hb dX7_init_0 rfl (lv_at hl 0 rfl) ?_
  refine W.objInit hx hb hown (hts _ oi_X7_3) (hts _ oi_i) (hts _ oi_c) rfl (by rw [hml]; exact hl.1) rfl dX7_init_1 (Nat.le_of_ble_eq_true rfl) (Nat.le_of_ble_eq_true rfl) ?_
  refine W.eq (g2 := F0 m 4 ls []) rfl ?_
  refine lv_aload_n hx hb dX7_init_4 rfl (lv_at hl 0 rfl) ?_
  refine lv_iconst (v := 0) hx hb dX7_init_5 (by decide) ?_
  refine hp_put hx hb hts hown hZ f0 fp_X7_9 rfl rfl (Nat.le_of_ble_eq_true rfl) dX7_init_6 (fun V1 _ _ e2 o3 hZ => ?_)
  have e2 : V1 (a) = some (.inr (7, [.int (0), .int (0), .null, .null, .int (0), .int (0), .int (0), .null])) := e2
  refine lv_aload_n hx hb dX7_init_9 rfl (lv_at hl 0 rfl) ?_
  refine lv_iconst (v := -1) hx hb dX7_init_10 (by decide) ?_
  refine hp_put hx hb hts hown hZ e2 fp_X7_15 rfl rfl (Nat.le_of_ble_eq_true rfl) dX7_init_11 (fun V4 _ _ e5 o6 hZ => ?_)
  have e5 : V4 (a) = some (.inr (7, [.int (0), .int (-1), .null, .null, .int (0), .int (0), .int (0), .null])) := e5
  refine lv_aload_n hx hb dX7_init_14 rfl (lv_at hl 0 rfl) ?_
  refine hp_new hx hb hts hown hZ nw_X7_18 (Nat.le_of_ble_eq_true rfl) (Nat.le_of_ble_eq_true rfl) dX7_init_15 (fun V7 _ e8 o9 hZ => ?_)
  have e8 : V7 (n) = some (.inr (9, [.null, .int (0)])) := e8
  refine lv_dup hx hb dX7_init_18 rfl ?_
  refine lv_bipush (v := 12) hx hb dX7_init_19 (by decide) ?_
  refine hp_callv (hp_runN (As := [.int (12)]) (rest := [.ref (n), .ref (a)]) hx hb hml hown hts (c_X9_init l D cs B V7 (n + 1) (n) 12 12 (by decide) (by decide) (by decide) (by decide) e8) hZ cv_X7_20 rfl rfl ⟨Nat.le_of_ble_eq_true rfl, Nat.le_of_ble_eq_true rfl⟩ rfl hl.1 rfl (Nat.le_of_ble_eq_true rfl) dX7_init_21 ⟨(Nat.le_of_ble_eq_true rfl), (Nat.le_of_ble_eq_true rfl)⟩) hZ (fun V10 n11 _ _ hw12 hZ => ?_)
  obtain ⟨hn14, g15, g16, fr13⟩ := hw12
  have hn14 : n + 2 = n11 := by omega
  subst hn14
  have fx17 := (fr13 (a) (hq_ltn lt_f0 1) (hq_lt lt_f0 0)).trans ((o9 (a) (hq_lt lt_f0 0)).trans (e5))
  have fx17 : V10 (a) = some (.inr (7, [.int (0), .int (-1), .null, .null, .int (0), .int (0), .int (0), .null])) := fx17
  refine hp_putF hx hb hts hown hin hZ fx17 fp_X7_23 rfl rfl (Nat.le_of_ble_eq_true rfl) dX7_init_24 (fun V18 _ _ e19 o20 hZ => ?_)
  have e19 : V18 (a) = some (.inr (7, [.int (0), .int (-1), .null, .null, .int (0), .int (0), .int (0), .ref (n)])) := e19
  have fx21 := (o20 (n) (hq_lt lt_f0 0).symm).trans (g15)
  have fx21 : V18 (n) = some (.inr (9, [.ref (n + 1), .int (0)])) := fx21
  have fx22 := (o20 (n + 1) (hq_lt lt_f0 1).symm).trans (g16)
  have fx22 : V18 (n + 1) = some (.inl (cs 0, 12, .inl (fun _ => 0))) := fx22
  exact hp_vret hx hb hr hlocks hZ ⟨rfl, e19, fx21, fx22, fun x hxn hxa => (o20 (x) hxa).trans ((fr13 (x) (hq_ltn hxn 1) (hq_lt hxn 0)).trans ((o9 (x) (hq_lt hxn 0)).trans ((o6 (x) hxa).trans (o3 (x) hxa))))⟩ dX7_init_27

set_option maxHeartbeats 4000000 in
set_option maxRecDepth 100000 in
theorem c_X1_init (l : Launch) (D : va_G) (cs : Nat → ClassId) (B : Nat) (V : hp_V) (n : Nat) (a : Nat) (f0 : V a = some (.inr (1, [.null, .null, .int (0), .null, .null, .null, .null, .null, .null, .int (0), .null, .null, .null]))) : hp_M l yX1_init cX1_init 1 none ({ frames := 2, cells := 11, slots := 116, locals := 42 }) D cs B V n [.ref (a)] (hp_QV D cs B (fun V' n' => n' = n + 11 ∧ V' (a) = some (.inr (1, [.ref (n), .ref (n + 1), .int (0), .ref (n + 2), .ref (n + 4), .ref (n + 6), .null, .null, .null, .int (0), .ref (n + 8), .ref (n + 9), .ref (n + 10)])) ∧ V' (n) = some (.inr (10, [.int (0), .int (0), .int (0), .int (0), .int (0), .int (0), .int (0)])) ∧ V' (n + 1) = some (.inr (10, [.int (0), .int (0), .int (0), .int (0), .int (0), .int (0), .int (0)])) ∧ V' (n + 2) = some (.inr (9, [.ref (n + 3), .int (0)])) ∧ V' (n + 3) = some (.inl (cs 0, 30, .inl (fun _ => 0))) ∧ V' (n + 4) = some (.inr (9, [.ref (n + 5), .int (0)])) ∧ V' (n + 5) = some (.inl (cs 0, 30, .inl (fun _ => 0))) ∧ V' (n + 6) = some (.inr (9, [.ref (n + 7), .int (0)])) ∧ V' (n + 7) = some (.inl (cs 0, 30, .inl (fun _ => 0))) ∧ V' (n + 8) = some (.inl (cs 1, 2, .inl (fun _ => 0))) ∧ V' (n + 9) = some (.inl (cs 1, 2, .inl (fun _ => 0))) ∧ V' (n + 10) = some (.inl (cs 1, 2, .inl (fun _ => 0))) ∧ ∀ x, x < n → x ≠ a → V' x = V x)) 11 (116) := by
  refine hp_walk (R0 := RX1) (by decide) rfl ?_ (Nat.le_of_ble_eq_true rfl)
  intro p e s m below meth c ls hx hb hr hts hown hlocks hin hml hZ hl
  have hin : meth.name = "<init>" := hin
  have hl : lv_has ls 1 [(0, .ref (a))] := hl
  have lt_f0 := hZ.lt f0
  refine lv_aload_n hx hb dX1_init_0 rfl (lv_at hl 0 rfl) ?_
  refine W.objInit hx hb hown (hts _ oi_X1_3) (hts _ oi_i) (hts _ oi_c) rfl (by rw [hml]; exact hl.1) rfl dX1_init_1 (Nat.le_of_ble_eq_true rfl) (Nat.le_of_ble_eq_true rfl) ?_
  refine W.eq (g2 := F0 m 4 ls []) rfl ?_
  refine lv_aload_n hx hb dX1_init_4 rfl (lv_at hl 0 rfl) ?_
  refine hp_new hx hb hts hown hZ nw_X1_9 (Nat.le_of_ble_eq_true rfl) (Nat.le_of_ble_eq_true rfl) dX1_init_5 (fun V1 _ e2 o3 hZ => ?_)
  have e2 : V1 (n) = some (.inr (10, [.int (0), .int (0), .int (0), .int (0), .int (0), .int (0), .int (0)])) := e2
  refine lv_dup hx hb dX1_init_8 rfl ?_
  refine hp_callv (hp_runNN (As := []) (rest := [.ref (n), .ref (a)]) hx hb hml hown hts (c_X10_init l D cs B V1 (n + 1) (n)) hZ cv_X1_11 rfl rfl ⟨Nat.le_of_ble_eq_true rfl, Nat.le_of_ble_eq_true rfl⟩ rfl hl.1 rfl (Nat.le_of_ble_eq_true rfl) dX1_init_9 ⟨(Nat.le_of_ble_eq_true rfl), (Nat.le_of_ble_eq_true rfl)⟩) hZ (fun V4 n5 _ _ hw6 hZ => ?_)
  obtain ⟨hn8, fr7⟩ := hw6
  have hn8 : n + 1 = n5 := by omega
  subst hn8
  have fx9 := (fr7 (a)).trans ((o3 (a) (hq_lt lt_f0 0)).trans (f0))
  have fx9 : V4 (a) = some (.inr (1, [.null, .null, .int (0), .null, .null, .null, .null, .null, .null, .int (0), .null, .null, .null])) := fx9
  refine hp_putF hx hb hts hown hin hZ fx9 fp_X1_12 rfl rfl (Nat.le_of_ble_eq_true rfl) dX1_init_12 (fun V10 _ _ e11 o12 hZ => ?_)
  have e11 : V10 (a) = some (.inr (1, [.ref (n), .null, .int (0), .null, .null, .null, .null, .null, .null, .int (0), .null, .null, .null])) := e11
  refine lv_aload_n hx hb dX1_init_15 rfl (lv_at hl 0 rfl) ?_
  refine hp_new hx hb hts hown hZ nw_X1_9 (Nat.le_of_ble_eq_true rfl) (Nat.le_of_ble_eq_true rfl) dX1_init_16 (fun V13 _ e14 o15 hZ => ?_)
  have e14 : V13 (n + 1) = some (.inr (10, [.int (0), .int (0), .int (0), .int (0), .int (0), .int (0), .int (0)])) := e14
  refine lv_dup hx hb dX1_init_19 rfl ?_
  refine hp_callv (hp_runNN (As := []) (rest := [.ref (n + 1), .ref (a)]) hx hb hml hown hts (c_X10_init l D cs B V13 (n + 2) (n + 1)) hZ cv_X1_11 rfl rfl ⟨Nat.le_of_ble_eq_true rfl, Nat.le_of_ble_eq_true rfl⟩ rfl hl.1 rfl (Nat.le_of_ble_eq_true rfl) dX1_init_20 ⟨(Nat.le_of_ble_eq_true rfl), (Nat.le_of_ble_eq_true rfl)⟩) hZ (fun V16 n17 _ _ hw18 hZ => ?_)
  obtain ⟨hn20, fr19⟩ := hw18
  have hn20 : n + 2 = n17 := by omega
  subst hn20
  have fx21 := (fr19 (a)).trans ((o15 (a) (hq_lt lt_f0 1)).trans (e11))
  have fx21 : V16 (a) = some (.inr (1, [.ref (n), .null, .int (0), .null, .null, .null, .null, .null, .null, .int (0), .null, .null, .null])) := fx21
  refine hp_putF hx hb hts hown hin hZ fx21 fp_X1_18 rfl rfl (Nat.le_of_ble_eq_true rfl) dX1_init_23 (fun V22 _ _ e23 o24 hZ => ?_)
  have e23 : V22 (a) = some (.inr (1, [.ref (n), .ref (n + 1), .int (0), .null, .null, .null, .null, .null, .null, .int (0), .null, .null, .null])) := e23
  refine lv_aload_n hx hb dX1_init_26 rfl (lv_at hl 0 rfl) ?_
  refine hp_new hx hb hts hown hZ nw_X1_21 (Nat.le_of_ble_eq_true rfl) (Nat.le_of_ble_eq_true rfl) dX1_init_27 (fun V25 _ e26 o27 hZ => ?_)
  have e26 : V25 (n + 2) = some (.inr (9, [.null, .int (0)])) := e26
  refine lv_dup hx hb dX1_init_30 rfl ?_
  refine lv_bipush (v := 30) hx hb dX1_init_31 (by decide) ?_
  refine hp_callv (hp_runN (As := [.int (30)]) (rest := [.ref (n + 2), .ref (a)]) hx hb hml hown hts (c_X9_init l D cs B V25 (n + 3) (n + 2) 30 30 (by decide) (by decide) (by decide) (by decide) e26) hZ cv_X1_23 rfl rfl ⟨Nat.le_of_ble_eq_true rfl, Nat.le_of_ble_eq_true rfl⟩ rfl hl.1 rfl (Nat.le_of_ble_eq_true rfl) dX1_init_33 ⟨(Nat.le_of_ble_eq_true rfl), (Nat.le_of_ble_eq_true rfl)⟩) hZ (fun V28 n29 _ _ hw30 hZ => ?_)
  obtain ⟨hn32, g33, g34, fr31⟩ := hw30
  have hn32 : n + 4 = n29 := by omega
  subst hn32
  have fx35 := (fr31 (a) (hq_ltn lt_f0 3) (hq_lt lt_f0 2)).trans ((o27 (a) (hq_lt lt_f0 2)).trans (e23))
  have fx35 : V28 (a) = some (.inr (1, [.ref (n), .ref (n + 1), .int (0), .null, .null, .null, .null, .null, .null, .int (0), .null, .null, .null])) := fx35
  refine hp_putF hx hb hts hown hin hZ fx35 fp_X1_26 rfl rfl (Nat.le_of_ble_eq_true rfl) dX1_init_36 (fun V36 _ _ e37 o38 hZ => ?_)
  have e37 : V36 (a) = some (.inr (1, [.ref (n), .ref (n + 1), .int (0), .ref (n + 2), .null, .null, .null, .null, .null, .int (0), .null, .null, .null])) := e37
  refine lv_aload_n hx hb dX1_init_39 rfl (lv_at hl 0 rfl) ?_
  refine hp_new hx hb hts hown hZ nw_X1_21 (Nat.le_of_ble_eq_true rfl) (Nat.le_of_ble_eq_true rfl) dX1_init_40 (fun V39 _ e40 o41 hZ => ?_)
  have e40 : V39 (n + 4) = some (.inr (9, [.null, .int (0)])) := e40
  refine lv_dup hx hb dX1_init_43 rfl ?_
  refine lv_bipush (v := 30) hx hb dX1_init_44 (by decide) ?_
  refine hp_callv (hp_runN (As := [.int (30)]) (rest := [.ref (n + 4), .ref (a)]) hx hb hml hown hts (c_X9_init l D cs B V39 (n + 5) (n + 4) 30 30 (by decide) (by decide) (by decide) (by decide) e40) hZ cv_X1_23 rfl rfl ⟨Nat.le_of_ble_eq_true rfl, Nat.le_of_ble_eq_true rfl⟩ rfl hl.1 rfl (Nat.le_of_ble_eq_true rfl) dX1_init_46 ⟨(Nat.le_of_ble_eq_true rfl), (Nat.le_of_ble_eq_true rfl)⟩) hZ (fun V42 n43 _ _ hw44 hZ => ?_)
  obtain ⟨hn46, g47, g48, fr45⟩ := hw44
  have hn46 : n + 6 = n43 := by omega
  subst hn46
  have fx49 := (fr45 (a) (hq_ltn lt_f0 5) (hq_lt lt_f0 4)).trans ((o41 (a) (hq_lt lt_f0 4)).trans (e37))
  have fx49 : V42 (a) = some (.inr (1, [.ref (n), .ref (n + 1), .int (0), .ref (n + 2), .null, .null, .null, .null, .null, .int (0), .null, .null, .null])) := fx49
  refine hp_putF hx hb hts hown hin hZ fx49 fp_X1_30 rfl rfl (Nat.le_of_ble_eq_true rfl) dX1_init_49 (fun V50 _ _ e51 o52 hZ => ?_)
  have e51 : V50 (a) = some (.inr (1, [.ref (n), .ref (n + 1), .int (0), .ref (n + 2), .ref (n + 4), .null, .null, .null, .null, .int (0), .null, .null, .null])) := e51
  refine lv_aload_n hx hb dX1_init_52 rfl (lv_at hl 0 rfl) ?_
  refine hp_new hx hb hts hown hZ nw_X1_21 (Nat.le_of_ble_eq_true rfl) (Nat.le_of_ble_eq_true rfl) dX1_init_53 (fun V53 _ e54 o55 hZ => ?_)
  have e54 : V53 (n + 6) = some (.inr (9, [.null, .int (0)])) := e54
  refine lv_dup hx hb dX1_init_56 rfl ?_
  refine lv_bipush (v := 30) hx hb dX1_init_57 (by decide) ?_
  refine hp_callv (hp_runN (As := [.int (30)]) (rest := [.ref (n + 6), .ref (a)]) hx hb hml hown hts (c_X9_init l D cs B V53 (n + 7) (n + 6) 30 30 (by decide) (by decide) (by decide) (by decide) e54) hZ cv_X1_23 rfl rfl ⟨Nat.le_of_ble_eq_true rfl, Nat.le_of_ble_eq_true rfl⟩ rfl hl.1 rfl (Nat.le_of_ble_eq_true rfl) dX1_init_59 ⟨(Nat.le_of_ble_eq_true rfl), (Nat.le_of_ble_eq_true rfl)⟩) hZ (fun V56 n57 _ _ hw58 hZ => ?_)
  obtain ⟨hn60, g61, g62, fr59⟩ := hw58
  have hn60 : n + 8 = n57 := by omega
  subst hn60
  have fx63 := (fr59 (a) (hq_ltn lt_f0 7) (hq_lt lt_f0 6)).trans ((o55 (a) (hq_lt lt_f0 6)).trans (e51))
  have fx63 : V56 (a) = some (.inr (1, [.ref (n), .ref (n + 1), .int (0), .ref (n + 2), .ref (n + 4), .null, .null, .null, .null, .int (0), .null, .null, .null])) := fx63
  refine hp_putF hx hb hts hown hin hZ fx63 fp_X1_33 rfl rfl (Nat.le_of_ble_eq_true rfl) dX1_init_62 (fun V64 _ _ e65 o66 hZ => ?_)
  have e65 : V64 (a) = some (.inr (1, [.ref (n), .ref (n + 1), .int (0), .ref (n + 2), .ref (n + 4), .ref (n + 6), .null, .null, .null, .int (0), .null, .null, .null])) := e65
  refine lv_aload_n hx hb dX1_init_65 rfl (lv_at hl 0 rfl) ?_
  refine lv_iconst (v := 2) hx hb dX1_init_66 (by decide) ?_
  refine hp_newa (ty := .int) (t0 := 1) (cA := cs 1) (N := 2) (a0 := (2, .inl (fun _ => 0))) hx hb hts hZ rfl ac_int rfl rfl (fun _ => rfl) (by decide) (by decide) (by decide) (Nat.le_of_ble_eq_true rfl) (Nat.le_of_ble_eq_true rfl) dX1_init_67 (fun V67 _ e68 o69 hZ => ?_)
  have e68 : V67 (n + 8) = some (.inl (cs 1, 2, .inl (fun _ => 0))) := e68
  have fx70 := (o69 (a) (hq_lt lt_f0 8)).trans (e65)
  have fx70 : V67 (a) = some (.inr (1, [.ref (n), .ref (n + 1), .int (0), .ref (n + 2), .ref (n + 4), .ref (n + 6), .null, .null, .null, .int (0), .null, .null, .null])) := fx70
  refine hp_putF hx hb hts hown hin hZ fx70 fp_X1_36 rfl rfl (Nat.le_of_ble_eq_true rfl) dX1_init_69 (fun V71 _ _ e72 o73 hZ => ?_)
  have e72 : V71 (a) = some (.inr (1, [.ref (n), .ref (n + 1), .int (0), .ref (n + 2), .ref (n + 4), .ref (n + 6), .null, .null, .null, .int (0), .ref (n + 8), .null, .null])) := e72
  refine lv_aload_n hx hb dX1_init_72 rfl (lv_at hl 0 rfl) ?_
  refine lv_iconst (v := 2) hx hb dX1_init_73 (by decide) ?_
  refine hp_newa (ty := .int) (t0 := 1) (cA := cs 1) (N := 2) (a0 := (2, .inl (fun _ => 0))) hx hb hts hZ rfl ac_int rfl rfl (fun _ => rfl) (by decide) (by decide) (by decide) (Nat.le_of_ble_eq_true rfl) (Nat.le_of_ble_eq_true rfl) dX1_init_74 (fun V74 _ e75 o76 hZ => ?_)
  have e75 : V74 (n + 9) = some (.inl (cs 1, 2, .inl (fun _ => 0))) := e75
  have fx77 := (o76 (a) (hq_lt lt_f0 9)).trans (e72)
  have fx77 : V74 (a) = some (.inr (1, [.ref (n), .ref (n + 1), .int (0), .ref (n + 2), .ref (n + 4), .ref (n + 6), .null, .null, .null, .int (0), .ref (n + 8), .null, .null])) := fx77
  refine hp_putF hx hb hts hown hin hZ fx77 fp_X1_40 rfl rfl (Nat.le_of_ble_eq_true rfl) dX1_init_76 (fun V78 _ _ e79 o80 hZ => ?_)
  have e79 : V78 (a) = some (.inr (1, [.ref (n), .ref (n + 1), .int (0), .ref (n + 2), .ref (n + 4), .ref (n + 6), .null, .null, .null, .int (0), .ref (n + 8), .ref (n + 9), .null])) := e79
  refine lv_aload_n hx hb dX1_init_79 rfl (lv_at hl 0 rfl) ?_
  refine lv_iconst (v := 2) hx hb dX1_init_80 (by decide) ?_
  refine hp_newa (ty := .int) (t0 := 1) (cA := cs 1) (N := 2) (a0 := (2, .inl (fun _ => 0))) hx hb hts hZ rfl ac_int rfl rfl (fun _ => rfl) (by decide) (by decide) (by decide) (Nat.le_of_ble_eq_true rfl) (Nat.le_of_ble_eq_true rfl) dX1_init_81 (fun V81 _ e82 o83 hZ => ?_)
  have e82 : V81 (n + 10) = some (.inl (cs 1, 2, .inl (fun _ => 0))) := e82
  have fx84 := (o83 (a) (hq_lt lt_f0 10)).trans (e79)
  have fx84 : V81 (a) = some (.inr (1, [.ref (n), .ref (n + 1), .int (0), .ref (n + 2), .ref (n + 4), .ref (n + 6), .null, .null, .null, .int (0), .ref (n + 8), .ref (n + 9), .null])) := fx84
  refine hp_putF hx hb hts hown hin hZ fx84 fp_X1_43 rfl rfl (Nat.le_of_ble_eq_true rfl) dX1_init_83 (fun V85 _ _ e86 o87 hZ => ?_)
  have e86 : V85 (a) = some (.inr (1, [.ref (n), .ref (n + 1), .int (0), .ref (n + 2), .ref (n + 4), .ref (n + 6), .null, .null, .null, .int (0), .ref (n + 8), .ref (n + 9), .ref (n + 10)])) := e86
  have fx88 := (o87 (n) (hq_lt lt_f0 0).symm).trans ((o83 (n) (hq_ne n 0 10 (by decide))).trans ((o80 (n) (hq_lt lt_f0 0).symm).trans ((o76 (n) (hq_ne n 0 9 (by decide))).trans ((o73 (n) (hq_lt lt_f0 0).symm).trans ((o69 (n) (hq_ne n 0 8 (by decide))).trans ((o66 (n) (hq_lt lt_f0 0).symm).trans ((fr59 (n) (hq_lts n 0 7 (by decide)) (hq_ne n 0 6 (by decide))).trans ((o55 (n) (hq_ne n 0 6 (by decide))).trans ((o52 (n) (hq_lt lt_f0 0).symm).trans ((fr45 (n) (hq_lts n 0 5 (by decide)) (hq_ne n 0 4 (by decide))).trans ((o41 (n) (hq_ne n 0 4 (by decide))).trans ((o38 (n) (hq_lt lt_f0 0).symm).trans ((fr31 (n) (hq_lts n 0 3 (by decide)) (hq_ne n 0 2 (by decide))).trans ((o27 (n) (hq_ne n 0 2 (by decide))).trans ((o24 (n) (hq_lt lt_f0 0).symm).trans ((fr19 (n)).trans ((o15 (n) (hq_ne n 0 1 (by decide))).trans ((o12 (n) (hq_lt lt_f0 0).symm).trans ((fr7 (n)).trans (e2))))))))))))))))))))
  have fx88 : V85 (n) = some (.inr (10, [.int (0), .int (0), .int (0), .int (0), .int (0), .int (0), .int (0)])) := fx88
  have fx89 := (o87 (n + 1) (hq_lt lt_f0 1).symm).trans ((o83 (n + 1) (hq_ne n 1 10 (by decide))).trans ((o80 (n + 1) (hq_lt lt_f0 1).symm).trans ((o76 (n + 1) (hq_ne n 1 9 (by decide))).trans ((o73 (n + 1) (hq_lt lt_f0 1).symm).trans ((o69 (n + 1) (hq_ne n 1 8 (by decide))).trans ((o66 (n + 1) (hq_lt lt_f0 1).symm).trans ((fr59 (n + 1) (hq_lts n 1 7 (by decide)) (hq_ne n 1 6 (by decide))).trans ((o55 (n + 1) (hq_ne n 1 6 (by decide))).trans ((o52 (n + 1) (hq_lt lt_f0 1).symm).trans ((fr45 (n + 1) (hq_lts n 1 5 (by decide)) (hq_ne n 1 4 (by decide))).trans ((o41 (n + 1) (hq_ne n 1 4 (by decide))).trans ((o38 (n + 1) (hq_lt lt_f0 1).symm).trans ((fr31 (n + 1) (hq_lts n 1 3 (by decide)) (hq_ne n 1 2 (by decide))).trans ((o27 (n + 1) (hq_ne n 1 2 (by decide))).trans ((o24 (n + 1) (hq_lt lt_f0 1).symm).trans ((fr19 (n + 1)).trans (e14)))))))))))))))))
  have fx89 : V85 (n + 1) = some (.inr (10, [.int (0), .int (0), .int (0), .int (0), .int (0), .int (0), .int (0)])) := fx89
  have fx90 := (o87 (n + 2) (hq_lt lt_f0 2).symm).trans ((o83 (n + 2) (hq_ne n 2 10 (by decide))).trans ((o80 (n + 2) (hq_lt lt_f0 2).symm).trans ((o76 (n + 2) (hq_ne n 2 9 (by decide))).trans ((o73 (n + 2) (hq_lt lt_f0 2).symm).trans ((o69 (n + 2) (hq_ne n 2 8 (by decide))).trans ((o66 (n + 2) (hq_lt lt_f0 2).symm).trans ((fr59 (n + 2) (hq_lts n 2 7 (by decide)) (hq_ne n 2 6 (by decide))).trans ((o55 (n + 2) (hq_ne n 2 6 (by decide))).trans ((o52 (n + 2) (hq_lt lt_f0 2).symm).trans ((fr45 (n + 2) (hq_lts n 2 5 (by decide)) (hq_ne n 2 4 (by decide))).trans ((o41 (n + 2) (hq_ne n 2 4 (by decide))).trans ((o38 (n + 2) (hq_lt lt_f0 2).symm).trans (g33)))))))))))))
  have fx90 : V85 (n + 2) = some (.inr (9, [.ref (n + 3), .int (0)])) := fx90
  have fx91 := (o87 (n + 3) (hq_lt lt_f0 3).symm).trans ((o83 (n + 3) (hq_ne n 3 10 (by decide))).trans ((o80 (n + 3) (hq_lt lt_f0 3).symm).trans ((o76 (n + 3) (hq_ne n 3 9 (by decide))).trans ((o73 (n + 3) (hq_lt lt_f0 3).symm).trans ((o69 (n + 3) (hq_ne n 3 8 (by decide))).trans ((o66 (n + 3) (hq_lt lt_f0 3).symm).trans ((fr59 (n + 3) (hq_lts n 3 7 (by decide)) (hq_ne n 3 6 (by decide))).trans ((o55 (n + 3) (hq_ne n 3 6 (by decide))).trans ((o52 (n + 3) (hq_lt lt_f0 3).symm).trans ((fr45 (n + 3) (hq_lts n 3 5 (by decide)) (hq_ne n 3 4 (by decide))).trans ((o41 (n + 3) (hq_ne n 3 4 (by decide))).trans ((o38 (n + 3) (hq_lt lt_f0 3).symm).trans (g34)))))))))))))
  have fx91 : V85 (n + 3) = some (.inl (cs 0, 30, .inl (fun _ => 0))) := fx91
  have fx92 := (o87 (n + 4) (hq_lt lt_f0 4).symm).trans ((o83 (n + 4) (hq_ne n 4 10 (by decide))).trans ((o80 (n + 4) (hq_lt lt_f0 4).symm).trans ((o76 (n + 4) (hq_ne n 4 9 (by decide))).trans ((o73 (n + 4) (hq_lt lt_f0 4).symm).trans ((o69 (n + 4) (hq_ne n 4 8 (by decide))).trans ((o66 (n + 4) (hq_lt lt_f0 4).symm).trans ((fr59 (n + 4) (hq_lts n 4 7 (by decide)) (hq_ne n 4 6 (by decide))).trans ((o55 (n + 4) (hq_ne n 4 6 (by decide))).trans ((o52 (n + 4) (hq_lt lt_f0 4).symm).trans (g47))))))))))
  have fx92 : V85 (n + 4) = some (.inr (9, [.ref (n + 5), .int (0)])) := fx92
  have fx93 := (o87 (n + 5) (hq_lt lt_f0 5).symm).trans ((o83 (n + 5) (hq_ne n 5 10 (by decide))).trans ((o80 (n + 5) (hq_lt lt_f0 5).symm).trans ((o76 (n + 5) (hq_ne n 5 9 (by decide))).trans ((o73 (n + 5) (hq_lt lt_f0 5).symm).trans ((o69 (n + 5) (hq_ne n 5 8 (by decide))).trans ((o66 (n + 5) (hq_lt lt_f0 5).symm).trans ((fr59 (n + 5) (hq_lts n 5 7 (by decide)) (hq_ne n 5 6 (by decide))).trans ((o55 (n + 5) (hq_ne n 5 6 (by decide))).trans ((o52 (n + 5) (hq_lt lt_f0 5).symm).trans (g48))))))))))
  have fx93 : V85 (n + 5) = some (.inl (cs 0, 30, .inl (fun _ => 0))) := fx93
  have fx94 := (o87 (n + 6) (hq_lt lt_f0 6).symm).trans ((o83 (n + 6) (hq_ne n 6 10 (by decide))).trans ((o80 (n + 6) (hq_lt lt_f0 6).symm).trans ((o76 (n + 6) (hq_ne n 6 9 (by decide))).trans ((o73 (n + 6) (hq_lt lt_f0 6).symm).trans ((o69 (n + 6) (hq_ne n 6 8 (by decide))).trans ((o66 (n + 6) (hq_lt lt_f0 6).symm).trans (g61)))))))
  have fx94 : V85 (n + 6) = some (.inr (9, [.ref (n + 7), .int (0)])) := fx94
  have fx95 := (o87 (n + 7) (hq_lt lt_f0 7).symm).trans ((o83 (n + 7) (hq_ne n 7 10 (by decide))).trans ((o80 (n + 7) (hq_lt lt_f0 7).symm).trans ((o76 (n + 7) (hq_ne n 7 9 (by decide))).trans ((o73 (n + 7) (hq_lt lt_f0 7).symm).trans ((o69 (n + 7) (hq_ne n 7 8 (by decide))).trans ((o66 (n + 7) (hq_lt lt_f0 7).symm).trans (g62)))))))
  have fx95 : V85 (n + 7) = some (.inl (cs 0, 30, .inl (fun _ => 0))) := fx95
  have fx96 := (o87 (n + 8) (hq_lt lt_f0 8).symm).trans ((o83 (n + 8) (hq_ne n 8 10 (by decide))).trans ((o80 (n + 8) (hq_lt lt_f0 8).symm).trans ((o76 (n + 8) (hq_ne n 8 9 (by decide))).trans ((o73 (n + 8) (hq_lt lt_f0 8).symm).trans (e68)))))
  have fx96 : V85 (n + 8) = some (.inl (cs 1, 2, .inl (fun _ => 0))) := fx96
  have fx97 := (o87 (n + 9) (hq_lt lt_f0 9).symm).trans ((o83 (n + 9) (hq_ne n 9 10 (by decide))).trans ((o80 (n + 9) (hq_lt lt_f0 9).symm).trans (e75)))
  have fx97 : V85 (n + 9) = some (.inl (cs 1, 2, .inl (fun _ => 0))) := fx97
  have fx98 := (o87 (n + 10) (hq_lt lt_f0 10).symm).trans (e82)
  have fx98 : V85 (n + 10) = some (.inl (cs 1, 2, .inl (fun _ => 0))) := fx98
  exact hp_vret hx hb hr hlocks hZ ⟨rfl, e86, fx88, fx89, fx90, fx91, fx92, fx93, fx94, fx95, fx96, fx97, fx98, fun x hxn hxa => (o87 (x) hxa).trans ((o83 (x) (hq_lt hxn 10)).trans ((o80 (x) hxa).trans ((o76 (x) (hq_lt hxn 9)).trans ((o73 (x) hxa).trans ((o69 (x) (hq_lt hxn 8)).trans ((o66 (x) hxa).trans ((fr59 (x) (hq_ltn hxn 7) (hq_lt hxn 6)).trans ((o55 (x) (hq_lt hxn 6)).trans ((o52 (x) hxa).trans ((fr45 (x) (hq_ltn hxn 5) (hq_lt hxn 4)).trans ((o41 (x) (hq_lt hxn 4)).trans ((o38 (x) hxa).trans ((fr31 (x) (hq_ltn hxn 3) (hq_lt hxn 2)).trans ((o27 (x) (hq_lt hxn 2)).trans ((o24 (x) hxa).trans ((fr19 (x)).trans ((o15 (x) (hq_lt hxn 1)).trans ((o12 (x) hxa).trans ((fr7 (x)).trans (o3 (x) (hq_lt hxn 0)))))))))))))))))))))⟩ dX1_init_86

set_option maxHeartbeats 4000000 in
set_option maxRecDepth 100000 in
theorem c_X6_init (l : Launch) (D : va_G) (cs : Nat → ClassId) (B : Nat) (V : hp_V) (n : Nat) (a : Nat) (f0 : V a = some (.inr (6, [.null, .int (0), .null, .null, .null]))) : hp_M l yX6_init cX6_init 1 none ({ frames := 4, cells := 40, slots := 1286, locals := 84 }) D cs B V n [.ref (a)] (hp_QV D cs B (fun V' n' => n' = n + 40 ∧ V' (a) = some (.inr (6, [.ref (n), .int (0), .ref (n + 18), .ref (n + 28), .ref (n + 38)])) ∧ V' (n) = some (.inr (3, [.ref (n + 1), .int (0)])) ∧ V' (n + 2) = some (.inr (2, [.ref (n + 3), .ref (n + 5), .int (0)])) ∧ V' (n + 3) = some (.inr (9, [.ref (n + 4), .int (0)])) ∧ V' (n + 4) = some (.inl (cs 0, 30, .inl (fun _ => 0))) ∧ V' (n + 5) = some (.inl (cs 1, 120, .inl (fun _ => 0))) ∧ V' (n + 6) = some (.inr (2, [.ref (n + 7), .ref (n + 9), .int (0)])) ∧ V' (n + 7) = some (.inr (9, [.ref (n + 8), .int (0)])) ∧ V' (n + 8) = some (.inl (cs 0, 30, .inl (fun _ => 0))) ∧ V' (n + 9) = some (.inl (cs 1, 120, .inl (fun _ => 0))) ∧ V' (n + 10) = some (.inr (2, [.ref (n + 11), .ref (n + 13), .int (0)])) ∧ V' (n + 11) = some (.inr (9, [.ref (n + 12), .int (0)])) ∧ V' (n + 12) = some (.inl (cs 0, 30, .inl (fun _ => 0))) ∧ V' (n + 13) = some (.inl (cs 1, 120, .inl (fun _ => 0))) ∧ V' (n + 14) = some (.inr (2, [.ref (n + 15), .ref (n + 17), .int (0)])) ∧ V' (n + 15) = some (.inr (9, [.ref (n + 16), .int (0)])) ∧ V' (n + 16) = some (.inl (cs 0, 30, .inl (fun _ => 0))) ∧ V' (n + 17) = some (.inl (cs 1, 120, .inl (fun _ => 0))) ∧ V' (n + 18) = some (.inr (3, [.ref (n + 19), .int (0)])) ∧ V' (n + 20) = some (.inr (2, [.ref (n + 21), .ref (n + 23), .int (0)])) ∧ V' (n + 21) = some (.inr (9, [.ref (n + 22), .int (0)])) ∧ V' (n + 22) = some (.inl (cs 0, 30, .inl (fun _ => 0))) ∧ V' (n + 23) = some (.inl (cs 1, 120, .inl (fun _ => 0))) ∧ V' (n + 24) = some (.inr (2, [.ref (n + 25), .ref (n + 27), .int (0)])) ∧ V' (n + 25) = some (.inr (9, [.ref (n + 26), .int (0)])) ∧ V' (n + 26) = some (.inl (cs 0, 30, .inl (fun _ => 0))) ∧ V' (n + 27) = some (.inl (cs 1, 120, .inl (fun _ => 0))) ∧ V' (n + 28) = some (.inr (3, [.ref (n + 29), .int (0)])) ∧ V' (n + 30) = some (.inr (2, [.ref (n + 31), .ref (n + 33), .int (0)])) ∧ V' (n + 31) = some (.inr (9, [.ref (n + 32), .int (0)])) ∧ V' (n + 32) = some (.inl (cs 0, 30, .inl (fun _ => 0))) ∧ V' (n + 33) = some (.inl (cs 1, 120, .inl (fun _ => 0))) ∧ V' (n + 34) = some (.inr (2, [.ref (n + 35), .ref (n + 37), .int (0)])) ∧ V' (n + 35) = some (.inr (9, [.ref (n + 36), .int (0)])) ∧ V' (n + 36) = some (.inl (cs 0, 30, .inl (fun _ => 0))) ∧ V' (n + 37) = some (.inl (cs 1, 120, .inl (fun _ => 0))) ∧ V' (n + 38) = some (.inr (9, [.ref (n + 39), .int (0)])) ∧ V' (n + 39) = some (.inl (cs 0, 30, .inl (fun _ => 0))) ∧ (∃ g : Nat → Option Nat, V' (n + 1) = some (.inl (cs 4, 4, .inr (.inr (.inr (.inr (g)))))) ∧ g 0 = some (n + 2) ∧ g 1 = some (n + 6) ∧ g 2 = some (n + 10) ∧ g 3 = some (n + 14)) ∧ (∃ g : Nat → Option Nat, V' (n + 19) = some (.inl (cs 4, 2, .inr (.inr (.inr (.inr (g)))))) ∧ g 0 = some (n + 20) ∧ g 1 = some (n + 24)) ∧ (∃ g : Nat → Option Nat, V' (n + 29) = some (.inl (cs 4, 2, .inr (.inr (.inr (.inr (g)))))) ∧ g 0 = some (n + 30) ∧ g 1 = some (n + 34)) ∧ ∀ x, x < n → x ≠ a → V' x = V x)) 40 (1286) := by
  refine hp_walk (R0 := RX6) (by decide) rfl ?_ (Nat.le_of_ble_eq_true rfl)
  intro p e s m below meth c ls hx hb hr hts hown hlocks hin hml hZ hl
  have hin : meth.name = "<init>" := hin
  have hl : lv_has ls 1 [(0, .ref (a))] := hl
  have lt_f0 := hZ.lt f0
  refine lv_aload_n hx hb dX6_init_0 rfl (lv_at hl 0 rfl) ?_
  refine W.objInit hx hb hown (hts _ oi_X6_3) (hts _ oi_i) (hts _ oi_c) rfl (by rw [hml]; exact hl.1) rfl dX6_init_1 (Nat.le_of_ble_eq_true rfl) (Nat.le_of_ble_eq_true rfl) ?_
  refine W.eq (g2 := F0 m 4 ls []) rfl ?_
  refine lv_aload_n hx hb dX6_init_4 rfl (lv_at hl 0 rfl) ?_
  refine hp_new hx hb hts hown hZ nw_X6_9 (Nat.le_of_ble_eq_true rfl) (Nat.le_of_ble_eq_true rfl) dX6_init_5 (fun V1 _ e2 o3 hZ => ?_)
  have e2 : V1 (n) = some (.inr (3, [.null, .int (0)])) := e2
  refine lv_dup hx hb dX6_init_8 rfl ?_
  refine lv_iconst (v := 4) hx hb dX6_init_9 (by decide) ?_
  refine hp_callv (hp_runN (As := [.int (4)]) (rest := [.ref (n), .ref (a)]) hx hb hml hown hts (c_X3_init_4 l D cs B V1 (n + 1) (n) e2) hZ cv_X6_11 rfl rfl ⟨Nat.le_of_ble_eq_true rfl, Nat.le_of_ble_eq_true rfl⟩ rfl hl.1 rfl (Nat.le_of_ble_eq_true rfl) dX6_init_10 ⟨(Nat.le_of_ble_eq_true rfl), (Nat.le_of_ble_eq_true rfl)⟩) hZ (fun V4 n5 _ _ hw6 hZ => ?_)
  obtain ⟨hn8, g25, ⟨g26, g27, g28, g29, g30, g31⟩, g9, g10, g11, g12, g13, g14, g15, g16, g17, g18, g19, g20, g21, g22, g23, g24, fr7⟩ := hw6
  have hn8 : n + 18 = n5 := by omega
  subst hn8
  have fx32 := (fr7 (a) (hq_ltn lt_f0 1) (hq_lt lt_f0 0)).trans ((o3 (a) (hq_lt lt_f0 0)).trans (f0))
  have fx32 : V4 (a) = some (.inr (6, [.null, .int (0), .null, .null, .null])) := fx32
  refine hp_putF hx hb hts hown hin hZ fx32 fp_X6_14 rfl rfl (Nat.le_of_ble_eq_true rfl) dX6_init_13 (fun V33 _ _ e34 o35 hZ => ?_)
  have e34 : V33 (a) = some (.inr (6, [.ref (n), .int (0), .null, .null, .null])) := e34
  refine lv_aload_n hx hb dX6_init_16 rfl (lv_at hl 0 rfl) ?_
  refine hp_new hx hb hts hown hZ nw_X6_9 (Nat.le_of_ble_eq_true rfl) (Nat.le_of_ble_eq_true rfl) dX6_init_17 (fun V36 _ e37 o38 hZ => ?_)
  have e37 : V36 (n + 18) = some (.inr (3, [.null, .int (0)])) := e37
  refine lv_dup hx hb dX6_init_20 rfl ?_
  refine lv_iconst (v := 2) hx hb dX6_init_21 (by decide) ?_
  refine hp_callv (hp_runN (As := [.int (2)]) (rest := [.ref (n + 18), .ref (a)]) hx hb hml hown hts (c_X3_init_2 l D cs B V36 (n + 19) (n + 18) e37) hZ cv_X6_11 rfl rfl ⟨Nat.le_of_ble_eq_true rfl, Nat.le_of_ble_eq_true rfl⟩ rfl hl.1 rfl (Nat.le_of_ble_eq_true rfl) dX6_init_22 ⟨(Nat.le_of_ble_eq_true rfl), (Nat.le_of_ble_eq_true rfl)⟩) hZ (fun V39 n40 _ _ hw41 hZ => ?_)
  obtain ⟨hn43, g52, ⟨g53, g54, g55, g56⟩, g44, g45, g46, g47, g48, g49, g50, g51, fr42⟩ := hw41
  have hn43 : n + 28 = n40 := by omega
  subst hn43
  have fx57 := (fr42 (a) (hq_ltn lt_f0 19) (hq_lt lt_f0 18)).trans ((o38 (a) (hq_lt lt_f0 18)).trans (e34))
  have fx57 : V39 (a) = some (.inr (6, [.ref (n), .int (0), .null, .null, .null])) := fx57
  refine hp_putF hx hb hts hown hin hZ fx57 fp_X6_20 rfl rfl (Nat.le_of_ble_eq_true rfl) dX6_init_25 (fun V58 _ _ e59 o60 hZ => ?_)
  have e59 : V58 (a) = some (.inr (6, [.ref (n), .int (0), .ref (n + 18), .null, .null])) := e59
  refine lv_aload_n hx hb dX6_init_28 rfl (lv_at hl 0 rfl) ?_
  refine hp_new hx hb hts hown hZ nw_X6_9 (Nat.le_of_ble_eq_true rfl) (Nat.le_of_ble_eq_true rfl) dX6_init_29 (fun V61 _ e62 o63 hZ => ?_)
  have e62 : V61 (n + 28) = some (.inr (3, [.null, .int (0)])) := e62
  refine lv_dup hx hb dX6_init_32 rfl ?_
  refine lv_iconst (v := 2) hx hb dX6_init_33 (by decide) ?_
  refine hp_callv (hp_runN (As := [.int (2)]) (rest := [.ref (n + 28), .ref (a)]) hx hb hml hown hts (c_X3_init_2 l D cs B V61 (n + 29) (n + 28) e62) hZ cv_X6_11 rfl rfl ⟨Nat.le_of_ble_eq_true rfl, Nat.le_of_ble_eq_true rfl⟩ rfl hl.1 rfl (Nat.le_of_ble_eq_true rfl) dX6_init_34 ⟨(Nat.le_of_ble_eq_true rfl), (Nat.le_of_ble_eq_true rfl)⟩) hZ (fun V64 n65 _ _ hw66 hZ => ?_)
  obtain ⟨hn68, g77, ⟨g78, g79, g80, g81⟩, g69, g70, g71, g72, g73, g74, g75, g76, fr67⟩ := hw66
  have hn68 : n + 38 = n65 := by omega
  subst hn68
  have fx82 := (fr67 (a) (hq_ltn lt_f0 29) (hq_lt lt_f0 28)).trans ((o63 (a) (hq_lt lt_f0 28)).trans (e59))
  have fx82 : V64 (a) = some (.inr (6, [.ref (n), .int (0), .ref (n + 18), .null, .null])) := fx82
  refine hp_putF hx hb hts hown hin hZ fx82 fp_X6_23 rfl rfl (Nat.le_of_ble_eq_true rfl) dX6_init_37 (fun V83 _ _ e84 o85 hZ => ?_)
  have e84 : V83 (a) = some (.inr (6, [.ref (n), .int (0), .ref (n + 18), .ref (n + 28), .null])) := e84
  refine lv_aload_n hx hb dX6_init_40 rfl (lv_at hl 0 rfl) ?_
  refine hp_new hx hb hts hown hZ nw_X6_26 (Nat.le_of_ble_eq_true rfl) (Nat.le_of_ble_eq_true rfl) dX6_init_41 (fun V86 _ e87 o88 hZ => ?_)
  have e87 : V86 (n + 38) = some (.inr (9, [.null, .int (0)])) := e87
  refine lv_dup hx hb dX6_init_44 rfl ?_
  refine lv_bipush (v := 30) hx hb dX6_init_45 (by decide) ?_
  refine hp_callv (hp_runN (As := [.int (30)]) (rest := [.ref (n + 38), .ref (a)]) hx hb hml hown hts (c_X9_init l D cs B V86 (n + 39) (n + 38) 30 30 (by decide) (by decide) (by decide) (by decide) e87) hZ cv_X6_28 rfl rfl ⟨Nat.le_of_ble_eq_true rfl, Nat.le_of_ble_eq_true rfl⟩ rfl hl.1 rfl (Nat.le_of_ble_eq_true rfl) dX6_init_47 ⟨(Nat.le_of_ble_eq_true rfl), (Nat.le_of_ble_eq_true rfl)⟩) hZ (fun V89 n90 _ _ hw91 hZ => ?_)
  obtain ⟨hn93, g94, g95, fr92⟩ := hw91
  have hn93 : n + 40 = n90 := by omega
  subst hn93
  have fx96 := (fr92 (a) (hq_ltn lt_f0 39) (hq_lt lt_f0 38)).trans ((o88 (a) (hq_lt lt_f0 38)).trans (e84))
  have fx96 : V89 (a) = some (.inr (6, [.ref (n), .int (0), .ref (n + 18), .ref (n + 28), .null])) := fx96
  refine hp_putF hx hb hts hown hin hZ fx96 fp_X6_29 rfl rfl (Nat.le_of_ble_eq_true rfl) dX6_init_50 (fun V97 _ _ e98 o99 hZ => ?_)
  have e98 : V97 (a) = some (.inr (6, [.ref (n), .int (0), .ref (n + 18), .ref (n + 28), .ref (n + 38)])) := e98
  have fx100 := (o99 (n) (hq_lt lt_f0 0).symm).trans ((fr92 (n) (hq_lts n 0 39 (by decide)) (hq_ne n 0 38 (by decide))).trans ((o88 (n) (hq_ne n 0 38 (by decide))).trans ((o85 (n) (hq_lt lt_f0 0).symm).trans ((fr67 (n) (hq_lts n 0 29 (by decide)) (hq_ne n 0 28 (by decide))).trans ((o63 (n) (hq_ne n 0 28 (by decide))).trans ((o60 (n) (hq_lt lt_f0 0).symm).trans ((fr42 (n) (hq_lts n 0 19 (by decide)) (hq_ne n 0 18 (by decide))).trans ((o38 (n) (hq_ne n 0 18 (by decide))).trans ((o35 (n) (hq_lt lt_f0 0).symm).trans (g25))))))))))
  have fx100 : V97 (n) = some (.inr (3, [.ref (n + 1), .int (0)])) := fx100
  have fx101 := (o99 (n + 2) (hq_lt lt_f0 2).symm).trans ((fr92 (n + 2) (hq_lts n 2 39 (by decide)) (hq_ne n 2 38 (by decide))).trans ((o88 (n + 2) (hq_ne n 2 38 (by decide))).trans ((o85 (n + 2) (hq_lt lt_f0 2).symm).trans ((fr67 (n + 2) (hq_lts n 2 29 (by decide)) (hq_ne n 2 28 (by decide))).trans ((o63 (n + 2) (hq_ne n 2 28 (by decide))).trans ((o60 (n + 2) (hq_lt lt_f0 2).symm).trans ((fr42 (n + 2) (hq_lts n 2 19 (by decide)) (hq_ne n 2 18 (by decide))).trans ((o38 (n + 2) (hq_ne n 2 18 (by decide))).trans ((o35 (n + 2) (hq_lt lt_f0 2).symm).trans (g9))))))))))
  have fx101 : V97 (n + 2) = some (.inr (2, [.ref (n + 3), .ref (n + 5), .int (0)])) := fx101
  have fx102 := (o99 (n + 3) (hq_lt lt_f0 3).symm).trans ((fr92 (n + 3) (hq_lts n 3 39 (by decide)) (hq_ne n 3 38 (by decide))).trans ((o88 (n + 3) (hq_ne n 3 38 (by decide))).trans ((o85 (n + 3) (hq_lt lt_f0 3).symm).trans ((fr67 (n + 3) (hq_lts n 3 29 (by decide)) (hq_ne n 3 28 (by decide))).trans ((o63 (n + 3) (hq_ne n 3 28 (by decide))).trans ((o60 (n + 3) (hq_lt lt_f0 3).symm).trans ((fr42 (n + 3) (hq_lts n 3 19 (by decide)) (hq_ne n 3 18 (by decide))).trans ((o38 (n + 3) (hq_ne n 3 18 (by decide))).trans ((o35 (n + 3) (hq_lt lt_f0 3).symm).trans (g10))))))))))
  have fx102 : V97 (n + 3) = some (.inr (9, [.ref (n + 4), .int (0)])) := fx102
  have fx103 := (o99 (n + 4) (hq_lt lt_f0 4).symm).trans ((fr92 (n + 4) (hq_lts n 4 39 (by decide)) (hq_ne n 4 38 (by decide))).trans ((o88 (n + 4) (hq_ne n 4 38 (by decide))).trans ((o85 (n + 4) (hq_lt lt_f0 4).symm).trans ((fr67 (n + 4) (hq_lts n 4 29 (by decide)) (hq_ne n 4 28 (by decide))).trans ((o63 (n + 4) (hq_ne n 4 28 (by decide))).trans ((o60 (n + 4) (hq_lt lt_f0 4).symm).trans ((fr42 (n + 4) (hq_lts n 4 19 (by decide)) (hq_ne n 4 18 (by decide))).trans ((o38 (n + 4) (hq_ne n 4 18 (by decide))).trans ((o35 (n + 4) (hq_lt lt_f0 4).symm).trans (g11))))))))))
  have fx103 : V97 (n + 4) = some (.inl (cs 0, 30, .inl (fun _ => 0))) := fx103
  have fx104 := (o99 (n + 5) (hq_lt lt_f0 5).symm).trans ((fr92 (n + 5) (hq_lts n 5 39 (by decide)) (hq_ne n 5 38 (by decide))).trans ((o88 (n + 5) (hq_ne n 5 38 (by decide))).trans ((o85 (n + 5) (hq_lt lt_f0 5).symm).trans ((fr67 (n + 5) (hq_lts n 5 29 (by decide)) (hq_ne n 5 28 (by decide))).trans ((o63 (n + 5) (hq_ne n 5 28 (by decide))).trans ((o60 (n + 5) (hq_lt lt_f0 5).symm).trans ((fr42 (n + 5) (hq_lts n 5 19 (by decide)) (hq_ne n 5 18 (by decide))).trans ((o38 (n + 5) (hq_ne n 5 18 (by decide))).trans ((o35 (n + 5) (hq_lt lt_f0 5).symm).trans (g12))))))))))
  have fx104 : V97 (n + 5) = some (.inl (cs 1, 120, .inl (fun _ => 0))) := fx104
  have fx105 := (o99 (n + 6) (hq_lt lt_f0 6).symm).trans ((fr92 (n + 6) (hq_lts n 6 39 (by decide)) (hq_ne n 6 38 (by decide))).trans ((o88 (n + 6) (hq_ne n 6 38 (by decide))).trans ((o85 (n + 6) (hq_lt lt_f0 6).symm).trans ((fr67 (n + 6) (hq_lts n 6 29 (by decide)) (hq_ne n 6 28 (by decide))).trans ((o63 (n + 6) (hq_ne n 6 28 (by decide))).trans ((o60 (n + 6) (hq_lt lt_f0 6).symm).trans ((fr42 (n + 6) (hq_lts n 6 19 (by decide)) (hq_ne n 6 18 (by decide))).trans ((o38 (n + 6) (hq_ne n 6 18 (by decide))).trans ((o35 (n + 6) (hq_lt lt_f0 6).symm).trans (g13))))))))))
  have fx105 : V97 (n + 6) = some (.inr (2, [.ref (n + 7), .ref (n + 9), .int (0)])) := fx105
  have fx106 := (o99 (n + 7) (hq_lt lt_f0 7).symm).trans ((fr92 (n + 7) (hq_lts n 7 39 (by decide)) (hq_ne n 7 38 (by decide))).trans ((o88 (n + 7) (hq_ne n 7 38 (by decide))).trans ((o85 (n + 7) (hq_lt lt_f0 7).symm).trans ((fr67 (n + 7) (hq_lts n 7 29 (by decide)) (hq_ne n 7 28 (by decide))).trans ((o63 (n + 7) (hq_ne n 7 28 (by decide))).trans ((o60 (n + 7) (hq_lt lt_f0 7).symm).trans ((fr42 (n + 7) (hq_lts n 7 19 (by decide)) (hq_ne n 7 18 (by decide))).trans ((o38 (n + 7) (hq_ne n 7 18 (by decide))).trans ((o35 (n + 7) (hq_lt lt_f0 7).symm).trans (g14))))))))))
  have fx106 : V97 (n + 7) = some (.inr (9, [.ref (n + 8), .int (0)])) := fx106
  have fx107 := (o99 (n + 8) (hq_lt lt_f0 8).symm).trans ((fr92 (n + 8) (hq_lts n 8 39 (by decide)) (hq_ne n 8 38 (by decide))).trans ((o88 (n + 8) (hq_ne n 8 38 (by decide))).trans ((o85 (n + 8) (hq_lt lt_f0 8).symm).trans ((fr67 (n + 8) (hq_lts n 8 29 (by decide)) (hq_ne n 8 28 (by decide))).trans ((o63 (n + 8) (hq_ne n 8 28 (by decide))).trans ((o60 (n + 8) (hq_lt lt_f0 8).symm).trans ((fr42 (n + 8) (hq_lts n 8 19 (by decide)) (hq_ne n 8 18 (by decide))).trans ((o38 (n + 8) (hq_ne n 8 18 (by decide))).trans ((o35 (n + 8) (hq_lt lt_f0 8).symm).trans (g15))))))))))
  have fx107 : V97 (n + 8) = some (.inl (cs 0, 30, .inl (fun _ => 0))) := fx107
  have fx108 := (o99 (n + 9) (hq_lt lt_f0 9).symm).trans ((fr92 (n + 9) (hq_lts n 9 39 (by decide)) (hq_ne n 9 38 (by decide))).trans ((o88 (n + 9) (hq_ne n 9 38 (by decide))).trans ((o85 (n + 9) (hq_lt lt_f0 9).symm).trans ((fr67 (n + 9) (hq_lts n 9 29 (by decide)) (hq_ne n 9 28 (by decide))).trans ((o63 (n + 9) (hq_ne n 9 28 (by decide))).trans ((o60 (n + 9) (hq_lt lt_f0 9).symm).trans ((fr42 (n + 9) (hq_lts n 9 19 (by decide)) (hq_ne n 9 18 (by decide))).trans ((o38 (n + 9) (hq_ne n 9 18 (by decide))).trans ((o35 (n + 9) (hq_lt lt_f0 9).symm).trans (g16))))))))))
  have fx108 : V97 (n + 9) = some (.inl (cs 1, 120, .inl (fun _ => 0))) := fx108
  have fx109 := (o99 (n + 10) (hq_lt lt_f0 10).symm).trans ((fr92 (n + 10) (hq_lts n 10 39 (by decide)) (hq_ne n 10 38 (by decide))).trans ((o88 (n + 10) (hq_ne n 10 38 (by decide))).trans ((o85 (n + 10) (hq_lt lt_f0 10).symm).trans ((fr67 (n + 10) (hq_lts n 10 29 (by decide)) (hq_ne n 10 28 (by decide))).trans ((o63 (n + 10) (hq_ne n 10 28 (by decide))).trans ((o60 (n + 10) (hq_lt lt_f0 10).symm).trans ((fr42 (n + 10) (hq_lts n 10 19 (by decide)) (hq_ne n 10 18 (by decide))).trans ((o38 (n + 10) (hq_ne n 10 18 (by decide))).trans ((o35 (n + 10) (hq_lt lt_f0 10).symm).trans (g17))))))))))
  have fx109 : V97 (n + 10) = some (.inr (2, [.ref (n + 11), .ref (n + 13), .int (0)])) := fx109
  have fx110 := (o99 (n + 11) (hq_lt lt_f0 11).symm).trans ((fr92 (n + 11) (hq_lts n 11 39 (by decide)) (hq_ne n 11 38 (by decide))).trans ((o88 (n + 11) (hq_ne n 11 38 (by decide))).trans ((o85 (n + 11) (hq_lt lt_f0 11).symm).trans ((fr67 (n + 11) (hq_lts n 11 29 (by decide)) (hq_ne n 11 28 (by decide))).trans ((o63 (n + 11) (hq_ne n 11 28 (by decide))).trans ((o60 (n + 11) (hq_lt lt_f0 11).symm).trans ((fr42 (n + 11) (hq_lts n 11 19 (by decide)) (hq_ne n 11 18 (by decide))).trans ((o38 (n + 11) (hq_ne n 11 18 (by decide))).trans ((o35 (n + 11) (hq_lt lt_f0 11).symm).trans (g18))))))))))
  have fx110 : V97 (n + 11) = some (.inr (9, [.ref (n + 12), .int (0)])) := fx110
  have fx111 := (o99 (n + 12) (hq_lt lt_f0 12).symm).trans ((fr92 (n + 12) (hq_lts n 12 39 (by decide)) (hq_ne n 12 38 (by decide))).trans ((o88 (n + 12) (hq_ne n 12 38 (by decide))).trans ((o85 (n + 12) (hq_lt lt_f0 12).symm).trans ((fr67 (n + 12) (hq_lts n 12 29 (by decide)) (hq_ne n 12 28 (by decide))).trans ((o63 (n + 12) (hq_ne n 12 28 (by decide))).trans ((o60 (n + 12) (hq_lt lt_f0 12).symm).trans ((fr42 (n + 12) (hq_lts n 12 19 (by decide)) (hq_ne n 12 18 (by decide))).trans ((o38 (n + 12) (hq_ne n 12 18 (by decide))).trans ((o35 (n + 12) (hq_lt lt_f0 12).symm).trans (g19))))))))))
  have fx111 : V97 (n + 12) = some (.inl (cs 0, 30, .inl (fun _ => 0))) := fx111
  have fx112 := (o99 (n + 13) (hq_lt lt_f0 13).symm).trans ((fr92 (n + 13) (hq_lts n 13 39 (by decide)) (hq_ne n 13 38 (by decide))).trans ((o88 (n + 13) (hq_ne n 13 38 (by decide))).trans ((o85 (n + 13) (hq_lt lt_f0 13).symm).trans ((fr67 (n + 13) (hq_lts n 13 29 (by decide)) (hq_ne n 13 28 (by decide))).trans ((o63 (n + 13) (hq_ne n 13 28 (by decide))).trans ((o60 (n + 13) (hq_lt lt_f0 13).symm).trans ((fr42 (n + 13) (hq_lts n 13 19 (by decide)) (hq_ne n 13 18 (by decide))).trans ((o38 (n + 13) (hq_ne n 13 18 (by decide))).trans ((o35 (n + 13) (hq_lt lt_f0 13).symm).trans (g20))))))))))
  have fx112 : V97 (n + 13) = some (.inl (cs 1, 120, .inl (fun _ => 0))) := fx112
  have fx113 := (o99 (n + 14) (hq_lt lt_f0 14).symm).trans ((fr92 (n + 14) (hq_lts n 14 39 (by decide)) (hq_ne n 14 38 (by decide))).trans ((o88 (n + 14) (hq_ne n 14 38 (by decide))).trans ((o85 (n + 14) (hq_lt lt_f0 14).symm).trans ((fr67 (n + 14) (hq_lts n 14 29 (by decide)) (hq_ne n 14 28 (by decide))).trans ((o63 (n + 14) (hq_ne n 14 28 (by decide))).trans ((o60 (n + 14) (hq_lt lt_f0 14).symm).trans ((fr42 (n + 14) (hq_lts n 14 19 (by decide)) (hq_ne n 14 18 (by decide))).trans ((o38 (n + 14) (hq_ne n 14 18 (by decide))).trans ((o35 (n + 14) (hq_lt lt_f0 14).symm).trans (g21))))))))))
  have fx113 : V97 (n + 14) = some (.inr (2, [.ref (n + 15), .ref (n + 17), .int (0)])) := fx113
  have fx114 := (o99 (n + 15) (hq_lt lt_f0 15).symm).trans ((fr92 (n + 15) (hq_lts n 15 39 (by decide)) (hq_ne n 15 38 (by decide))).trans ((o88 (n + 15) (hq_ne n 15 38 (by decide))).trans ((o85 (n + 15) (hq_lt lt_f0 15).symm).trans ((fr67 (n + 15) (hq_lts n 15 29 (by decide)) (hq_ne n 15 28 (by decide))).trans ((o63 (n + 15) (hq_ne n 15 28 (by decide))).trans ((o60 (n + 15) (hq_lt lt_f0 15).symm).trans ((fr42 (n + 15) (hq_lts n 15 19 (by decide)) (hq_ne n 15 18 (by decide))).trans ((o38 (n + 15) (hq_ne n 15 18 (by decide))).trans ((o35 (n + 15) (hq_lt lt_f0 15).symm).trans (g22))))))))))
  have fx114 : V97 (n + 15) = some (.inr (9, [.ref (n + 16), .int (0)])) := fx114
  have fx115 := (o99 (n + 16) (hq_lt lt_f0 16).symm).trans ((fr92 (n + 16) (hq_lts n 16 39 (by decide)) (hq_ne n 16 38 (by decide))).trans ((o88 (n + 16) (hq_ne n 16 38 (by decide))).trans ((o85 (n + 16) (hq_lt lt_f0 16).symm).trans ((fr67 (n + 16) (hq_lts n 16 29 (by decide)) (hq_ne n 16 28 (by decide))).trans ((o63 (n + 16) (hq_ne n 16 28 (by decide))).trans ((o60 (n + 16) (hq_lt lt_f0 16).symm).trans ((fr42 (n + 16) (hq_lts n 16 19 (by decide)) (hq_ne n 16 18 (by decide))).trans ((o38 (n + 16) (hq_ne n 16 18 (by decide))).trans ((o35 (n + 16) (hq_lt lt_f0 16).symm).trans (g23))))))))))
  have fx115 : V97 (n + 16) = some (.inl (cs 0, 30, .inl (fun _ => 0))) := fx115
  have fx116 := (o99 (n + 17) (hq_lt lt_f0 17).symm).trans ((fr92 (n + 17) (hq_lts n 17 39 (by decide)) (hq_ne n 17 38 (by decide))).trans ((o88 (n + 17) (hq_ne n 17 38 (by decide))).trans ((o85 (n + 17) (hq_lt lt_f0 17).symm).trans ((fr67 (n + 17) (hq_lts n 17 29 (by decide)) (hq_ne n 17 28 (by decide))).trans ((o63 (n + 17) (hq_ne n 17 28 (by decide))).trans ((o60 (n + 17) (hq_lt lt_f0 17).symm).trans ((fr42 (n + 17) (hq_lts n 17 19 (by decide)) (hq_ne n 17 18 (by decide))).trans ((o38 (n + 17) (hq_ne n 17 18 (by decide))).trans ((o35 (n + 17) (hq_lt lt_f0 17).symm).trans (g24))))))))))
  have fx116 : V97 (n + 17) = some (.inl (cs 1, 120, .inl (fun _ => 0))) := fx116
  have fx117 := (o99 (n + 18) (hq_lt lt_f0 18).symm).trans ((fr92 (n + 18) (hq_lts n 18 39 (by decide)) (hq_ne n 18 38 (by decide))).trans ((o88 (n + 18) (hq_ne n 18 38 (by decide))).trans ((o85 (n + 18) (hq_lt lt_f0 18).symm).trans ((fr67 (n + 18) (hq_lts n 18 29 (by decide)) (hq_ne n 18 28 (by decide))).trans ((o63 (n + 18) (hq_ne n 18 28 (by decide))).trans ((o60 (n + 18) (hq_lt lt_f0 18).symm).trans (g52)))))))
  have fx117 : V97 (n + 18) = some (.inr (3, [.ref (n + 19), .int (0)])) := fx117
  have fx118 := (o99 (n + 20) (hq_lt lt_f0 20).symm).trans ((fr92 (n + 20) (hq_lts n 20 39 (by decide)) (hq_ne n 20 38 (by decide))).trans ((o88 (n + 20) (hq_ne n 20 38 (by decide))).trans ((o85 (n + 20) (hq_lt lt_f0 20).symm).trans ((fr67 (n + 20) (hq_lts n 20 29 (by decide)) (hq_ne n 20 28 (by decide))).trans ((o63 (n + 20) (hq_ne n 20 28 (by decide))).trans ((o60 (n + 20) (hq_lt lt_f0 20).symm).trans (g44)))))))
  have fx118 : V97 (n + 20) = some (.inr (2, [.ref (n + 21), .ref (n + 23), .int (0)])) := fx118
  have fx119 := (o99 (n + 21) (hq_lt lt_f0 21).symm).trans ((fr92 (n + 21) (hq_lts n 21 39 (by decide)) (hq_ne n 21 38 (by decide))).trans ((o88 (n + 21) (hq_ne n 21 38 (by decide))).trans ((o85 (n + 21) (hq_lt lt_f0 21).symm).trans ((fr67 (n + 21) (hq_lts n 21 29 (by decide)) (hq_ne n 21 28 (by decide))).trans ((o63 (n + 21) (hq_ne n 21 28 (by decide))).trans ((o60 (n + 21) (hq_lt lt_f0 21).symm).trans (g45)))))))
  have fx119 : V97 (n + 21) = some (.inr (9, [.ref (n + 22), .int (0)])) := fx119
  have fx120 := (o99 (n + 22) (hq_lt lt_f0 22).symm).trans ((fr92 (n + 22) (hq_lts n 22 39 (by decide)) (hq_ne n 22 38 (by decide))).trans ((o88 (n + 22) (hq_ne n 22 38 (by decide))).trans ((o85 (n + 22) (hq_lt lt_f0 22).symm).trans ((fr67 (n + 22) (hq_lts n 22 29 (by decide)) (hq_ne n 22 28 (by decide))).trans ((o63 (n + 22) (hq_ne n 22 28 (by decide))).trans ((o60 (n + 22) (hq_lt lt_f0 22).symm).trans (g46)))))))
  have fx120 : V97 (n + 22) = some (.inl (cs 0, 30, .inl (fun _ => 0))) := fx120
  have fx121 := (o99 (n + 23) (hq_lt lt_f0 23).symm).trans ((fr92 (n + 23) (hq_lts n 23 39 (by decide)) (hq_ne n 23 38 (by decide))).trans ((o88 (n + 23) (hq_ne n 23 38 (by decide))).trans ((o85 (n + 23) (hq_lt lt_f0 23).symm).trans ((fr67 (n + 23) (hq_lts n 23 29 (by decide)) (hq_ne n 23 28 (by decide))).trans ((o63 (n + 23) (hq_ne n 23 28 (by decide))).trans ((o60 (n + 23) (hq_lt lt_f0 23).symm).trans (g47)))))))
  have fx121 : V97 (n + 23) = some (.inl (cs 1, 120, .inl (fun _ => 0))) := fx121
  have fx122 := (o99 (n + 24) (hq_lt lt_f0 24).symm).trans ((fr92 (n + 24) (hq_lts n 24 39 (by decide)) (hq_ne n 24 38 (by decide))).trans ((o88 (n + 24) (hq_ne n 24 38 (by decide))).trans ((o85 (n + 24) (hq_lt lt_f0 24).symm).trans ((fr67 (n + 24) (hq_lts n 24 29 (by decide)) (hq_ne n 24 28 (by decide))).trans ((o63 (n + 24) (hq_ne n 24 28 (by decide))).trans ((o60 (n + 24) (hq_lt lt_f0 24).symm).trans (g48)))))))
  have fx122 : V97 (n + 24) = some (.inr (2, [.ref (n + 25), .ref (n + 27), .int (0)])) := fx122
  have fx123 := (o99 (n + 25) (hq_lt lt_f0 25).symm).trans ((fr92 (n + 25) (hq_lts n 25 39 (by decide)) (hq_ne n 25 38 (by decide))).trans ((o88 (n + 25) (hq_ne n 25 38 (by decide))).trans ((o85 (n + 25) (hq_lt lt_f0 25).symm).trans ((fr67 (n + 25) (hq_lts n 25 29 (by decide)) (hq_ne n 25 28 (by decide))).trans ((o63 (n + 25) (hq_ne n 25 28 (by decide))).trans ((o60 (n + 25) (hq_lt lt_f0 25).symm).trans (g49)))))))
  have fx123 : V97 (n + 25) = some (.inr (9, [.ref (n + 26), .int (0)])) := fx123
  have fx124 := (o99 (n + 26) (hq_lt lt_f0 26).symm).trans ((fr92 (n + 26) (hq_lts n 26 39 (by decide)) (hq_ne n 26 38 (by decide))).trans ((o88 (n + 26) (hq_ne n 26 38 (by decide))).trans ((o85 (n + 26) (hq_lt lt_f0 26).symm).trans ((fr67 (n + 26) (hq_lts n 26 29 (by decide)) (hq_ne n 26 28 (by decide))).trans ((o63 (n + 26) (hq_ne n 26 28 (by decide))).trans ((o60 (n + 26) (hq_lt lt_f0 26).symm).trans (g50)))))))
  have fx124 : V97 (n + 26) = some (.inl (cs 0, 30, .inl (fun _ => 0))) := fx124
  have fx125 := (o99 (n + 27) (hq_lt lt_f0 27).symm).trans ((fr92 (n + 27) (hq_lts n 27 39 (by decide)) (hq_ne n 27 38 (by decide))).trans ((o88 (n + 27) (hq_ne n 27 38 (by decide))).trans ((o85 (n + 27) (hq_lt lt_f0 27).symm).trans ((fr67 (n + 27) (hq_lts n 27 29 (by decide)) (hq_ne n 27 28 (by decide))).trans ((o63 (n + 27) (hq_ne n 27 28 (by decide))).trans ((o60 (n + 27) (hq_lt lt_f0 27).symm).trans (g51)))))))
  have fx125 : V97 (n + 27) = some (.inl (cs 1, 120, .inl (fun _ => 0))) := fx125
  have fx126 := (o99 (n + 28) (hq_lt lt_f0 28).symm).trans ((fr92 (n + 28) (hq_lts n 28 39 (by decide)) (hq_ne n 28 38 (by decide))).trans ((o88 (n + 28) (hq_ne n 28 38 (by decide))).trans ((o85 (n + 28) (hq_lt lt_f0 28).symm).trans (g77))))
  have fx126 : V97 (n + 28) = some (.inr (3, [.ref (n + 29), .int (0)])) := fx126
  have fx127 := (o99 (n + 30) (hq_lt lt_f0 30).symm).trans ((fr92 (n + 30) (hq_lts n 30 39 (by decide)) (hq_ne n 30 38 (by decide))).trans ((o88 (n + 30) (hq_ne n 30 38 (by decide))).trans ((o85 (n + 30) (hq_lt lt_f0 30).symm).trans (g69))))
  have fx127 : V97 (n + 30) = some (.inr (2, [.ref (n + 31), .ref (n + 33), .int (0)])) := fx127
  have fx128 := (o99 (n + 31) (hq_lt lt_f0 31).symm).trans ((fr92 (n + 31) (hq_lts n 31 39 (by decide)) (hq_ne n 31 38 (by decide))).trans ((o88 (n + 31) (hq_ne n 31 38 (by decide))).trans ((o85 (n + 31) (hq_lt lt_f0 31).symm).trans (g70))))
  have fx128 : V97 (n + 31) = some (.inr (9, [.ref (n + 32), .int (0)])) := fx128
  have fx129 := (o99 (n + 32) (hq_lt lt_f0 32).symm).trans ((fr92 (n + 32) (hq_lts n 32 39 (by decide)) (hq_ne n 32 38 (by decide))).trans ((o88 (n + 32) (hq_ne n 32 38 (by decide))).trans ((o85 (n + 32) (hq_lt lt_f0 32).symm).trans (g71))))
  have fx129 : V97 (n + 32) = some (.inl (cs 0, 30, .inl (fun _ => 0))) := fx129
  have fx130 := (o99 (n + 33) (hq_lt lt_f0 33).symm).trans ((fr92 (n + 33) (hq_lts n 33 39 (by decide)) (hq_ne n 33 38 (by decide))).trans ((o88 (n + 33) (hq_ne n 33 38 (by decide))).trans ((o85 (n + 33) (hq_lt lt_f0 33).symm).trans (g72))))
  have fx130 : V97 (n + 33) = some (.inl (cs 1, 120, .inl (fun _ => 0))) := fx130
  have fx131 := (o99 (n + 34) (hq_lt lt_f0 34).symm).trans ((fr92 (n + 34) (hq_lts n 34 39 (by decide)) (hq_ne n 34 38 (by decide))).trans ((o88 (n + 34) (hq_ne n 34 38 (by decide))).trans ((o85 (n + 34) (hq_lt lt_f0 34).symm).trans (g73))))
  have fx131 : V97 (n + 34) = some (.inr (2, [.ref (n + 35), .ref (n + 37), .int (0)])) := fx131
  have fx132 := (o99 (n + 35) (hq_lt lt_f0 35).symm).trans ((fr92 (n + 35) (hq_lts n 35 39 (by decide)) (hq_ne n 35 38 (by decide))).trans ((o88 (n + 35) (hq_ne n 35 38 (by decide))).trans ((o85 (n + 35) (hq_lt lt_f0 35).symm).trans (g74))))
  have fx132 : V97 (n + 35) = some (.inr (9, [.ref (n + 36), .int (0)])) := fx132
  have fx133 := (o99 (n + 36) (hq_lt lt_f0 36).symm).trans ((fr92 (n + 36) (hq_lts n 36 39 (by decide)) (hq_ne n 36 38 (by decide))).trans ((o88 (n + 36) (hq_ne n 36 38 (by decide))).trans ((o85 (n + 36) (hq_lt lt_f0 36).symm).trans (g75))))
  have fx133 : V97 (n + 36) = some (.inl (cs 0, 30, .inl (fun _ => 0))) := fx133
  have fx134 := (o99 (n + 37) (hq_lt lt_f0 37).symm).trans ((fr92 (n + 37) (hq_lts n 37 39 (by decide)) (hq_ne n 37 38 (by decide))).trans ((o88 (n + 37) (hq_ne n 37 38 (by decide))).trans ((o85 (n + 37) (hq_lt lt_f0 37).symm).trans (g76))))
  have fx134 : V97 (n + 37) = some (.inl (cs 1, 120, .inl (fun _ => 0))) := fx134
  have fx135 := (o99 (n + 38) (hq_lt lt_f0 38).symm).trans (g94)
  have fx135 : V97 (n + 38) = some (.inr (9, [.ref (n + 39), .int (0)])) := fx135
  have fx136 := (o99 (n + 39) (hq_lt lt_f0 39).symm).trans (g95)
  have fx136 : V97 (n + 39) = some (.inl (cs 0, 30, .inl (fun _ => 0))) := fx136
  have fx137 := (o99 (n + 1) (hq_lt lt_f0 1).symm).trans ((fr92 (n + 1) (hq_lts n 1 39 (by decide)) (hq_ne n 1 38 (by decide))).trans ((o88 (n + 1) (hq_ne n 1 38 (by decide))).trans ((o85 (n + 1) (hq_lt lt_f0 1).symm).trans ((fr67 (n + 1) (hq_lts n 1 29 (by decide)) (hq_ne n 1 28 (by decide))).trans ((o63 (n + 1) (hq_ne n 1 28 (by decide))).trans ((o60 (n + 1) (hq_lt lt_f0 1).symm).trans ((fr42 (n + 1) (hq_lts n 1 19 (by decide)) (hq_ne n 1 18 (by decide))).trans ((o38 (n + 1) (hq_ne n 1 18 (by decide))).trans ((o35 (n + 1) (hq_lt lt_f0 1).symm).trans (g27))))))))))
  have fx137 : V97 (n + 1) = some (.inl (cs 4, 4, .inr (.inr (.inr (.inr (g26)))))) := fx137
  have fx138 := (o99 (n + 19) (hq_lt lt_f0 19).symm).trans ((fr92 (n + 19) (hq_lts n 19 39 (by decide)) (hq_ne n 19 38 (by decide))).trans ((o88 (n + 19) (hq_ne n 19 38 (by decide))).trans ((o85 (n + 19) (hq_lt lt_f0 19).symm).trans ((fr67 (n + 19) (hq_lts n 19 29 (by decide)) (hq_ne n 19 28 (by decide))).trans ((o63 (n + 19) (hq_ne n 19 28 (by decide))).trans ((o60 (n + 19) (hq_lt lt_f0 19).symm).trans (g54)))))))
  have fx138 : V97 (n + 19) = some (.inl (cs 4, 2, .inr (.inr (.inr (.inr (g53)))))) := fx138
  have fx139 := (o99 (n + 29) (hq_lt lt_f0 29).symm).trans ((fr92 (n + 29) (hq_lts n 29 39 (by decide)) (hq_ne n 29 38 (by decide))).trans ((o88 (n + 29) (hq_ne n 29 38 (by decide))).trans ((o85 (n + 29) (hq_lt lt_f0 29).symm).trans (g79))))
  have fx139 : V97 (n + 29) = some (.inl (cs 4, 2, .inr (.inr (.inr (.inr (g78)))))) := fx139
  exact hp_vret hx hb hr hlocks hZ ⟨rfl, e98, fx100, fx101, fx102, fx103, fx104, fx105, fx106, fx107, fx108, fx109, fx110, fx111, fx112, fx113, fx114, fx115, fx116, fx117, fx118, fx119, fx120, fx121, fx122, fx123, fx124, fx125, fx126, fx127, fx128, fx129, fx130, fx131, fx132, fx133, fx134, fx135, fx136, ⟨_, fx137, g28, g29, g30, g31⟩, ⟨_, fx138, g55, g56⟩, ⟨_, fx139, g80, g81⟩, fun x hxn hxa => (o99 (x) hxa).trans ((fr92 (x) (hq_ltn hxn 39) (hq_lt hxn 38)).trans ((o88 (x) (hq_lt hxn 38)).trans ((o85 (x) hxa).trans ((fr67 (x) (hq_ltn hxn 29) (hq_lt hxn 28)).trans ((o63 (x) (hq_lt hxn 28)).trans ((o60 (x) hxa).trans ((fr42 (x) (hq_ltn hxn 19) (hq_lt hxn 18)).trans ((o38 (x) (hq_lt hxn 18)).trans ((o35 (x) hxa).trans ((fr7 (x) (hq_ltn hxn 1) (hq_lt hxn 0)).trans (o3 (x) (hq_lt hxn 0))))))))))))⟩ dX6_init_53

/-- a Book, fresh: its object at a, what it made from n on -/
def fx_B (cs : Nat → ClassId) (V : hp_V) (a n : Nat) : Prop := V a = some (.inr (0, [.ref (n), .int (0), .ref (n + 13), .ref (n + 74), .int (0), .ref (n + 75), .int (0)])) ∧ V (n + 74) = some (.inl (cs 1, 30, .inl (fun _ => 0))) ∧ (∃ g : Nat → Option Nat, V (n) = some (.inl (cs 7, 6, .inr (.inr (.inr (.inr (g)))))) ∧ ∀ j, j < 6 → g j = some (n + 1 + 2 * j) ∧ V (n + 1 + 2 * j) = some (.inr (9, [.ref (n + 1 + 2 * j + 1), .int (0)])) ∧ V (n + 1 + 2 * j + 1) = some (.inl (cs 0, 12, .inl (fun _ => 0)))) ∧ (∃ g : Nat → Option Nat, V (n + 13) = some (.inl (cs 7, 30, .inr (.inr (.inr (.inr (g)))))) ∧ ∀ j, j < 30 → g j = some (n + 14 + 2 * j) ∧ V (n + 14 + 2 * j) = some (.inr (9, [.ref (n + 14 + 2 * j + 1), .int (0)])) ∧ V (n + 14 + 2 * j + 1) = some (.inl (cs 0, 12, .inl (fun _ => 0)))) ∧ (∃ g : Nat → Option Nat, V (n + 75) = some (.inl (cs 6, 60, .inr (.inr (.inr (.inr (g)))))) ∧ ∀ j, j < 60 → g j = some (n + 76 + 5 * j) ∧ V (n + 76 + 5 * j) = some (.inr (5, [.int (0), .int (0), .int (0), .int (0), .int (0), .int (0), .int (0), .int (0), .ref (n + 76 + 5 * j + 1), .ref (n + 76 + 5 * j + 3)])) ∧ V (n + 76 + 5 * j + 1) = some (.inr (9, [.ref (n + 76 + 5 * j + 2), .int (0)])) ∧ V (n + 76 + 5 * j + 2) = some (.inl (cs 0, 8, .inl (fun _ => 0))) ∧ V (n + 76 + 5 * j + 3) = some (.inr (9, [.ref (n + 76 + 5 * j + 4), .int (0)])) ∧ V (n + 76 + 5 * j + 4) = some (.inl (cs 0, 8, .inl (fun _ => 0))))
theorem fx_B.keep {cs : Nat → ClassId} {V V' : hp_V} {a n : Nat} (h : fx_B cs V a n) (hk : ∀ x, (x = a ∨ (n ≤ x ∧ x < n + 376)) → V' x = V x) : fx_B cs V' a n := by
  obtain ⟨h1, h2, ⟨g1, e1, f1⟩, ⟨g2, e2, f2⟩, ⟨g3, e3, f3⟩⟩ := h
  refine ⟨(hk _ (Or.inl rfl)).trans h1, (hk _ (by omega)).trans h2, ⟨g1, (hk _ (by omega)).trans e1, fun j hj => ?_⟩, ⟨g2, (hk _ (by omega)).trans e2, fun j hj => ?_⟩, ⟨g3, (hk _ (by omega)).trans e3, fun j hj => ?_⟩⟩
  · obtain ⟨p1, p2, p3⟩ := f1 j hj
    exact ⟨p1, (hk _ (by omega)).trans p2, (hk _ (by omega)).trans p3⟩
  · obtain ⟨p1, p2, p3⟩ := f2 j hj
    exact ⟨p1, (hk _ (by omega)).trans p2, (hk _ (by omega)).trans p3⟩
  · obtain ⟨p1, p2, p3, p4, p5, p6⟩ := f3 j hj
    exact ⟨p1, (hk _ (by omega)).trans p2, (hk _ (by omega)).trans p3, (hk _ (by omega)).trans p4, (hk _ (by omega)).trans p5, (hk _ (by omega)).trans p6⟩
theorem hk_ue {g : Nat → Option Nat} {i : Nat} {v : Option Nat} (h : i < 1000) : va_up g (nI i).toNatClampNeg v i = v := by rw [nI_clamp (by omega)]; exact va_up_self g i v
theorem hk_un {g : Nat → Option Nat} {i j : Nat} {v : Option Nat} (h : i < 1000) (hj : j ≠ i) : va_up g (nI i).toNatClampNeg v j = g j := by rw [nI_clamp (by omega)]; exact va_up_ne g v hj

set_option maxHeartbeats 4000000 in
set_option maxRecDepth 100000 in
theorem lp_X0_15 (l : Launch) (D : va_G) (cs : Nat → ClassId) (B : Nat) {p : Program} {e : Env} {s : State} {m : MethodId} {args : Array Value} {below : List Frame} {meth : Method} {c : Code} {Q : State → Prop} (hx : p.tables.exec = Jvm.exec) (hb : c.code = cX0_init) (hts : ∀ w ∈ TBG, w.before args s = true) (hown : s.vm.findClass RX0 = some m.cls) (hml : c.maxLocals = 2) (a n : Nat) (VE : hp_V) (ha : a < n)
    (kk : ∀ (V : hp_V) (H : Heap) (locs : List Loc) (ls : Array Slot) (g : Nat → Option Nat), hp_Z D cs B s V H (n + 1 + 2 * 6) locs → V (a) = some (.inr (0, [.ref (n), .int (0), .null, .null, .int (0), .null, .int (0)])) → V (n) = some (.inl (cs 7, 6, .inr (.inr (.inr (.inr (g)))))) → ((∀ x, x < n → V x = VE x) ∧ ∀ j, j < 6 → g j = some (n + 1 + 2 * j) ∧ V (n + 1 + 2 * j) = some (.inr (9, [.ref (n + 1 + 2 * j + 1), .int (0)])) ∧ V (n + 1 + 2 * j + 1) = some (.inl (cs 0, 12, .inl (fun _ => 0)))) → lv_has ls 2 [(1, .int (nI 6)), (0, .ref (a))] → W p l e ({ frames := 3, cells := 376, slots := 2430, locals := 62 }) s m args below meth c H locs (1 + 2 * 6) (6 + 14 * 6) Q (F0 m 42 ls [])) :
    ∀ (k i : Nat), i + k = 6 → ∀ (V : hp_V) (H : Heap) (locs : List Loc) (ls : Array Slot) (g : Nat → Option Nat), hp_Z D cs B s V H (n + 1 + 2 * i) locs → V (a) = some (.inr (0, [.ref (n), .int (0), .null, .null, .int (0), .null, .int (0)])) → V (n) = some (.inl (cs 7, 6, .inr (.inr (.inr (.inr (g)))))) → ((∀ x, x < n → V x = VE x) ∧ ∀ j, j < i → g j = some (n + 1 + 2 * j) ∧ V (n + 1 + 2 * j) = some (.inr (9, [.ref (n + 1 + 2 * j + 1), .int (0)])) ∧ V (n + 1 + 2 * j + 1) = some (.inl (cs 0, 12, .inl (fun _ => 0)))) → lv_has ls 2 [(1, .int (nI i)), (0, .ref (a))] → W p l e ({ frames := 3, cells := 376, slots := 2430, locals := 62 }) s m args below meth c H locs (1 + 2 * i) (6 + 14 * i) Q (F0 m 15 ls []) := by
  intro k
  induction k with
  | zero =>
    intro i hi V H locs ls g hZ f0 f1 fr hl
    obtain rfl : i = 6 := by omega
    refine lv_iload_n hx hb dX0_init_15 rfl (lv_at hl 0 rfl) ?_
    refine lv_bipush (v := 6) hx hb dX0_init_16 (by decide) ?_
    refine lv_icmp_ge (tgt := 42) hx hb dX0_init_18 (by decide) (fun c1 => ?_) (fun c1 => absurd ((by decide)) c1)
    exact kk V H locs ls _ hZ f0 f1 fr hl
  | succ k ih =>
    intro i hi V H locs ls g hZ f0 f1 fr hl
    have lt_f0 := hZ.lt f0
    have lt_f1 := hZ.lt f1
    refine lv_iload_n hx hb dX0_init_15 rfl (lv_at hl 0 rfl) ?_
    refine lv_bipush (v := 6) hx hb dX0_init_16 (by decide) ?_
    refine lv_icmp_ge (tgt := 42) hx hb dX0_init_18 (by decide) (fun c1 => absurd c1 (show ¬ nI 6 ≤ nI i from nI_ge (by omega) (by decide))) (fun c1 => ?_)
    refine lv_aload_n hx hb dX0_init_21 rfl (lv_at hl 1 rfl) ?_
    refine hp_get (v := .ref (n)) hx hb hts hown hZ f0 fl_X0_11 rfl dX0_init_22 ?_
    refine lv_iload_n hx hb dX0_init_25 rfl (lv_at hl 0 rfl) ?_
    refine hp_new hx hb hts hown hZ nw_X0_9 (by dsimp only; omega) (by dsimp only; omega) dX0_init_26 (fun V2 _ e3 o4 hZ => ?_)
    have e3 : V2 (n + 1 + 2 * i) = some (.inr (9, [.null, .int (0)])) := e3
    refine lv_dup hx hb dX0_init_29 rfl ?_
    refine lv_bipush (v := 12) hx hb dX0_init_30 (by decide) ?_
    refine hp_callv (hp_runN (As := [.int (12)]) (rest := [.ref (n + 1 + 2 * i), .int (nI i), .ref (n)]) hx hb hml hown hts (c_X9_init l D cs B V2 (n + 1 + 2 * i + 1) (n + 1 + 2 * i) 12 12 (by decide) (by decide) (by decide) (by decide) e3) hZ cv_X0_17 rfl rfl ⟨Nat.le_of_ble_eq_true rfl, Nat.le_of_ble_eq_true rfl⟩ rfl hl.1 rfl (Nat.le_of_ble_eq_true rfl) dX0_init_32 ⟨(by dsimp only; omega), (by dsimp only; omega)⟩) hZ (fun V5 n6 _ _ hw7 hZ => ?_)
    obtain ⟨hn9, g10, g11, fr8⟩ := hw7
    have hn9 : n + 1 + 2 * i + 2 = n6 := by omega
    subst hn9
    have fx12 := (fr8 (n) (by omega) (by omega)).trans ((o4 (n) (by omega)).trans (f1))
    have fx12 : V5 (n) = some (.inl (cs 7, 6, .inr (.inr (.inr (.inr (g)))))) := fx12
    refine hp_aast (r := (RX9, TX9, 2)) hx hb hZ 7 9 fx12 rfl g10 rfl (vp_in_nI (by omega) (by omega)) dX0_init_35 (fun V13 _ _ e14 o15 hZ => ?_)
    have e14 : V13 (n) = some (.inl (cs 7, 6, .inr (.inr (.inr (.inr (va_up (g) ((nI i : Int32).toNatClampNeg) (some (n + 1 + 2 * i)))))))) := e14
    refine lv_iinc (v := nI (i + 1)) (lv' := [(1, .int (nI (i + 1))), (0, .ref (a))]) hx hb dX0_init_36 hl (k := 0) rfl (by exact nI_1 i) (by decide) rfl (fun ls hl => ?_)
    refine lv_goto (tgt := 15) hx hb dX0_init_39 (by decide) ?_
    have fx16 := (o15 (a) (by omega)).trans ((fr8 (a) (by omega) (by omega)).trans ((o4 (a) (by omega)).trans (f0)))
    have fx16 : V13 (a) = some (.inr (0, [.ref (n), .int (0), .null, .null, .int (0), .null, .int (0)])) := fx16
    have fx17 := (o15 (n + 1 + 2 * i) (by omega)).trans (g10)
    have fx17 : V13 (n + 1 + 2 * i) = some (.inr (9, [.ref (n + 1 + 2 * i + 1), .int (0)])) := fx17
    have fx18 := (o15 (n + 1 + 2 * i + 1) (by omega)).trans (g11)
    have fx18 : V13 (n + 1 + 2 * i + 1) = some (.inl (cs 0, 12, .inl (fun _ => 0))) := fx18
    refine W.widen (k := 1 + 2 * (i + 1)) (n := 6 + 14 * (i + 1)) (by omega) (by omega) ?_
    exact ih (i + 1) (by omega) _ _ _ ls _ (by rw [show n + 1 + 2 * (i + 1) = n + 1 + 2 * i + 2 from by omega]; exact hZ) fx16 e14 ⟨fun x hx9 => ((o15 (x) (by omega)).trans ((fr8 (x) (by omega) (by omega)).trans (o4 (x) (by omega)))).trans (fr.1 x hx9), fun j hj => by rcases Nat.lt_or_ge j i with h9 | h9; (· obtain ⟨e0, e1, e2⟩ := fr.2 j h9; exact ⟨(hk_un (by omega) (by omega)).trans e0, ((o15 (n + 1 + 2 * j) (by omega)).trans ((fr8 (n + 1 + 2 * j) (by omega) (by omega)).trans (o4 (n + 1 + 2 * j) (by omega)))).trans e1, ((o15 (n + 1 + 2 * j + 1) (by omega)).trans ((fr8 (n + 1 + 2 * j + 1) (by omega) (by omega)).trans (o4 (n + 1 + 2 * j + 1) (by omega)))).trans e2⟩); (· obtain rfl : j = i := (by omega); exact ⟨hk_ue (by omega), fx17, fx18⟩)⟩ (lv_sub hl [0, 1] rfl)

set_option maxHeartbeats 4000000 in
set_option maxRecDepth 100000 in
theorem lp_X0_53 (l : Launch) (D : va_G) (cs : Nat → ClassId) (B : Nat) {p : Program} {e : Env} {s : State} {m : MethodId} {args : Array Value} {below : List Frame} {meth : Method} {c : Code} {Q : State → Prop} (hx : p.tables.exec = Jvm.exec) (hb : c.code = cX0_init) (hts : ∀ w ∈ TBG, w.before args s = true) (hown : s.vm.findClass RX0 = some m.cls) (hml : c.maxLocals = 2) (a n : Nat) (VE : hp_V) (ha : a < n)
    (kk : ∀ (V : hp_V) (H : Heap) (locs : List Loc) (ls : Array Slot) (g : Nat → Option Nat), hp_Z D cs B s V H (n + 14 + 2 * 30) locs → V (a) = some (.inr (0, [.ref (n), .int (0), .ref (n + 13), .null, .int (0), .null, .int (0)])) → V (n + 13) = some (.inl (cs 7, 30, .inr (.inr (.inr (.inr (g)))))) → ((∀ x, x < n + 13 → V x = VE x) ∧ ∀ j, j < 30 → g j = some (n + 14 + 2 * j) ∧ V (n + 14 + 2 * j) = some (.inr (9, [.ref (n + 14 + 2 * j + 1), .int (0)])) ∧ V (n + 14 + 2 * j + 1) = some (.inl (cs 0, 12, .inl (fun _ => 0)))) → lv_has ls 2 [(1, .int (nI 30)), (0, .ref (a))] → W p l e ({ frames := 3, cells := 376, slots := 2430, locals := 62 }) s m args below meth c H locs (14 + 2 * 30) (120 + 14 * 30) Q (F0 m 80 ls [])) :
    ∀ (k i : Nat), i + k = 30 → ∀ (V : hp_V) (H : Heap) (locs : List Loc) (ls : Array Slot) (g : Nat → Option Nat), hp_Z D cs B s V H (n + 14 + 2 * i) locs → V (a) = some (.inr (0, [.ref (n), .int (0), .ref (n + 13), .null, .int (0), .null, .int (0)])) → V (n + 13) = some (.inl (cs 7, 30, .inr (.inr (.inr (.inr (g)))))) → ((∀ x, x < n + 13 → V x = VE x) ∧ ∀ j, j < i → g j = some (n + 14 + 2 * j) ∧ V (n + 14 + 2 * j) = some (.inr (9, [.ref (n + 14 + 2 * j + 1), .int (0)])) ∧ V (n + 14 + 2 * j + 1) = some (.inl (cs 0, 12, .inl (fun _ => 0)))) → lv_has ls 2 [(1, .int (nI i)), (0, .ref (a))] → W p l e ({ frames := 3, cells := 376, slots := 2430, locals := 62 }) s m args below meth c H locs (14 + 2 * i) (120 + 14 * i) Q (F0 m 53 ls []) := by
  intro k
  induction k with
  | zero =>
    intro i hi V H locs ls g hZ f0 f1 fr hl
    obtain rfl : i = 30 := by omega
    refine lv_iload_n hx hb dX0_init_53 rfl (lv_at hl 0 rfl) ?_
    refine lv_bipush (v := 30) hx hb dX0_init_54 (by decide) ?_
    refine lv_icmp_ge (tgt := 80) hx hb dX0_init_56 (by decide) (fun c1 => ?_) (fun c1 => absurd ((by decide)) c1)
    exact kk V H locs ls _ hZ f0 f1 fr hl
  | succ k ih =>
    intro i hi V H locs ls g hZ f0 f1 fr hl
    have lt_f0 := hZ.lt f0
    have lt_f1 := hZ.lt f1
    refine lv_iload_n hx hb dX0_init_53 rfl (lv_at hl 0 rfl) ?_
    refine lv_bipush (v := 30) hx hb dX0_init_54 (by decide) ?_
    refine lv_icmp_ge (tgt := 80) hx hb dX0_init_56 (by decide) (fun c1 => absurd c1 (show ¬ nI 30 ≤ nI i from nI_ge (by omega) (by decide))) (fun c1 => ?_)
    refine lv_aload_n hx hb dX0_init_59 rfl (lv_at hl 1 rfl) ?_
    refine hp_get (v := .ref (n + 13)) hx hb hts hown hZ f0 fl_X0_20 rfl dX0_init_60 ?_
    refine lv_iload_n hx hb dX0_init_63 rfl (lv_at hl 0 rfl) ?_
    refine hp_new hx hb hts hown hZ nw_X0_9 (by dsimp only; omega) (by dsimp only; omega) dX0_init_64 (fun V2 _ e3 o4 hZ => ?_)
    have e3 : V2 (n + 14 + 2 * i) = some (.inr (9, [.null, .int (0)])) := e3
    refine lv_dup hx hb dX0_init_67 rfl ?_
    refine lv_bipush (v := 12) hx hb dX0_init_68 (by decide) ?_
    refine hp_callv (hp_runN (As := [.int (12)]) (rest := [.ref (n + 14 + 2 * i), .int (nI i), .ref (n + 13)]) hx hb hml hown hts (c_X9_init l D cs B V2 (n + 14 + 2 * i + 1) (n + 14 + 2 * i) 12 12 (by decide) (by decide) (by decide) (by decide) e3) hZ cv_X0_17 rfl rfl ⟨Nat.le_of_ble_eq_true rfl, Nat.le_of_ble_eq_true rfl⟩ rfl hl.1 rfl (Nat.le_of_ble_eq_true rfl) dX0_init_70 ⟨(by dsimp only; omega), (by dsimp only; omega)⟩) hZ (fun V5 n6 _ _ hw7 hZ => ?_)
    obtain ⟨hn9, g10, g11, fr8⟩ := hw7
    have hn9 : n + 14 + 2 * i + 2 = n6 := by omega
    subst hn9
    have fx12 := (fr8 (n + 13) (by omega) (by omega)).trans ((o4 (n + 13) (by omega)).trans (f1))
    have fx12 : V5 (n + 13) = some (.inl (cs 7, 30, .inr (.inr (.inr (.inr (g)))))) := fx12
    refine hp_aast (r := (RX9, TX9, 2)) hx hb hZ 7 9 fx12 rfl g10 rfl (vp_in_nI (by omega) (by omega)) dX0_init_73 (fun V13 _ _ e14 o15 hZ => ?_)
    have e14 : V13 (n + 13) = some (.inl (cs 7, 30, .inr (.inr (.inr (.inr (va_up (g) ((nI i : Int32).toNatClampNeg) (some (n + 14 + 2 * i)))))))) := e14
    refine lv_iinc (v := nI (i + 1)) (lv' := [(1, .int (nI (i + 1))), (0, .ref (a))]) hx hb dX0_init_74 hl (k := 0) rfl (by exact nI_1 i) (by decide) rfl (fun ls hl => ?_)
    refine lv_goto (tgt := 53) hx hb dX0_init_77 (by decide) ?_
    have fx16 := (o15 (a) (by omega)).trans ((fr8 (a) (by omega) (by omega)).trans ((o4 (a) (by omega)).trans (f0)))
    have fx16 : V13 (a) = some (.inr (0, [.ref (n), .int (0), .ref (n + 13), .null, .int (0), .null, .int (0)])) := fx16
    have fx17 := (o15 (n + 14 + 2 * i) (by omega)).trans (g10)
    have fx17 : V13 (n + 14 + 2 * i) = some (.inr (9, [.ref (n + 14 + 2 * i + 1), .int (0)])) := fx17
    have fx18 := (o15 (n + 14 + 2 * i + 1) (by omega)).trans (g11)
    have fx18 : V13 (n + 14 + 2 * i + 1) = some (.inl (cs 0, 12, .inl (fun _ => 0))) := fx18
    refine W.widen (k := 14 + 2 * (i + 1)) (n := 120 + 14 * (i + 1)) (by omega) (by omega) ?_
    exact ih (i + 1) (by omega) _ _ _ ls _ (by rw [show n + 14 + 2 * (i + 1) = n + 14 + 2 * i + 2 from by omega]; exact hZ) fx16 e14 ⟨fun x hx9 => ((o15 (x) (by omega)).trans ((fr8 (x) (by omega) (by omega)).trans (o4 (x) (by omega)))).trans (fr.1 x hx9), fun j hj => by rcases Nat.lt_or_ge j i with h9 | h9; (· obtain ⟨e0, e1, e2⟩ := fr.2 j h9; exact ⟨(hk_un (by omega) (by omega)).trans e0, ((o15 (n + 14 + 2 * j) (by omega)).trans ((fr8 (n + 14 + 2 * j) (by omega) (by omega)).trans (o4 (n + 14 + 2 * j) (by omega)))).trans e1, ((o15 (n + 14 + 2 * j + 1) (by omega)).trans ((fr8 (n + 14 + 2 * j + 1) (by omega) (by omega)).trans (o4 (n + 14 + 2 * j + 1) (by omega)))).trans e2⟩); (· obtain rfl : j = i := (by omega); exact ⟨hk_ue (by omega), fx17, fx18⟩)⟩ (lv_sub hl [0, 1] rfl)

set_option maxHeartbeats 4000000 in
set_option maxRecDepth 100000 in
theorem lp_X0_99 (l : Launch) (D : va_G) (cs : Nat → ClassId) (B : Nat) {p : Program} {e : Env} {s : State} {m : MethodId} {args : Array Value} {below : List Frame} {meth : Method} {c : Code} {Q : State → Prop} (hx : p.tables.exec = Jvm.exec) (hb : c.code = cX0_init) (hts : ∀ w ∈ TBG, w.before args s = true) (hown : s.vm.findClass RX0 = some m.cls) (hml : c.maxLocals = 2) (a n : Nat) (VE : hp_V) (ha : a < n)
    (kk : ∀ (V : hp_V) (H : Heap) (locs : List Loc) (ls : Array Slot) (g : Nat → Option Nat), hp_Z D cs B s V H (n + 76 + 5 * 60) locs → V (a) = some (.inr (0, [.ref (n), .int (0), .ref (n + 13), .ref (n + 74), .int (0), .ref (n + 75), .int (0)])) → V (n + 75) = some (.inl (cs 6, 60, .inr (.inr (.inr (.inr (g)))))) → ((∀ x, x < n + 75 → V x = VE x) ∧ ∀ j, j < 60 → g j = some (n + 76 + 5 * j) ∧ V (n + 76 + 5 * j) = some (.inr (5, [.int (0), .int (0), .int (0), .int (0), .int (0), .int (0), .int (0), .int (0), .ref (n + 76 + 5 * j + 1), .ref (n + 76 + 5 * j + 3)])) ∧ V (n + 76 + 5 * j + 1) = some (.inr (9, [.ref (n + 76 + 5 * j + 2), .int (0)])) ∧ V (n + 76 + 5 * j + 2) = some (.inl (cs 0, 8, .inl (fun _ => 0))) ∧ V (n + 76 + 5 * j + 3) = some (.inr (9, [.ref (n + 76 + 5 * j + 4), .int (0)])) ∧ V (n + 76 + 5 * j + 4) = some (.inl (cs 0, 8, .inl (fun _ => 0)))) → lv_has ls 2 [(1, .int (nI 60)), (0, .ref (a))] → W p l e ({ frames := 3, cells := 376, slots := 2430, locals := 62 }) s m args below meth c H locs (76 + 5 * 60) (630 + 30 * 60) Q (F0 m 124 ls [])) :
    ∀ (k i : Nat), i + k = 60 → ∀ (V : hp_V) (H : Heap) (locs : List Loc) (ls : Array Slot) (g : Nat → Option Nat), hp_Z D cs B s V H (n + 76 + 5 * i) locs → V (a) = some (.inr (0, [.ref (n), .int (0), .ref (n + 13), .ref (n + 74), .int (0), .ref (n + 75), .int (0)])) → V (n + 75) = some (.inl (cs 6, 60, .inr (.inr (.inr (.inr (g)))))) → ((∀ x, x < n + 75 → V x = VE x) ∧ ∀ j, j < i → g j = some (n + 76 + 5 * j) ∧ V (n + 76 + 5 * j) = some (.inr (5, [.int (0), .int (0), .int (0), .int (0), .int (0), .int (0), .int (0), .int (0), .ref (n + 76 + 5 * j + 1), .ref (n + 76 + 5 * j + 3)])) ∧ V (n + 76 + 5 * j + 1) = some (.inr (9, [.ref (n + 76 + 5 * j + 2), .int (0)])) ∧ V (n + 76 + 5 * j + 2) = some (.inl (cs 0, 8, .inl (fun _ => 0))) ∧ V (n + 76 + 5 * j + 3) = some (.inr (9, [.ref (n + 76 + 5 * j + 4), .int (0)])) ∧ V (n + 76 + 5 * j + 4) = some (.inl (cs 0, 8, .inl (fun _ => 0)))) → lv_has ls 2 [(1, .int (nI i)), (0, .ref (a))] → W p l e ({ frames := 3, cells := 376, slots := 2430, locals := 62 }) s m args below meth c H locs (76 + 5 * i) (630 + 30 * i) Q (F0 m 99 ls []) := by
  intro k
  induction k with
  | zero =>
    intro i hi V H locs ls g hZ f0 f1 fr hl
    obtain rfl : i = 60 := by omega
    refine lv_iload_n hx hb dX0_init_99 rfl (lv_at hl 0 rfl) ?_
    refine lv_bipush (v := 60) hx hb dX0_init_100 (by decide) ?_
    refine lv_icmp_ge (tgt := 124) hx hb dX0_init_102 (by decide) (fun c1 => ?_) (fun c1 => absurd ((by decide)) c1)
    exact kk V H locs ls _ hZ f0 f1 fr hl
  | succ k ih =>
    intro i hi V H locs ls g hZ f0 f1 fr hl
    have lt_f0 := hZ.lt f0
    have lt_f1 := hZ.lt f1
    refine lv_iload_n hx hb dX0_init_99 rfl (lv_at hl 0 rfl) ?_
    refine lv_bipush (v := 60) hx hb dX0_init_100 (by decide) ?_
    refine lv_icmp_ge (tgt := 124) hx hb dX0_init_102 (by decide) (fun c1 => absurd c1 (show ¬ nI 60 ≤ nI i from nI_ge (by omega) (by decide))) (fun c1 => ?_)
    refine lv_aload_n hx hb dX0_init_105 rfl (lv_at hl 1 rfl) ?_
    refine hp_get (v := .ref (n + 75)) hx hb hts hown hZ f0 fl_X0_29 rfl dX0_init_106 ?_
    refine lv_iload_n hx hb dX0_init_109 rfl (lv_at hl 0 rfl) ?_
    refine hp_new hx hb hts hown hZ nw_X0_27 (by dsimp only; omega) (by dsimp only; omega) dX0_init_110 (fun V2 _ e3 o4 hZ => ?_)
    have e3 : V2 (n + 76 + 5 * i) = some (.inr (5, [.int (0), .int (0), .int (0), .int (0), .int (0), .int (0), .int (0), .int (0), .null, .null])) := e3
    refine lv_dup hx hb dX0_init_113 rfl ?_
    refine hp_callv (hp_runN (As := []) (rest := [.ref (n + 76 + 5 * i), .int (nI i), .ref (n + 75)]) hx hb hml hown hts (c_X5_init l D cs B V2 (n + 76 + 5 * i + 1) (n + 76 + 5 * i) e3) hZ cv_X0_33 rfl rfl ⟨Nat.le_of_ble_eq_true rfl, Nat.le_of_ble_eq_true rfl⟩ rfl hl.1 rfl (Nat.le_of_ble_eq_true rfl) dX0_init_114 ⟨(by dsimp only; omega), (by dsimp only; omega)⟩) hZ (fun V5 n6 _ _ hw7 hZ => ?_)
    obtain ⟨hn9, g10, g11, g12, g13, g14, fr8⟩ := hw7
    have hn9 : n + 76 + 5 * i + 5 = n6 := by omega
    subst hn9
    have fx15 := (fr8 (n + 75) (by omega) (by omega)).trans ((o4 (n + 75) (by omega)).trans (f1))
    have fx15 : V5 (n + 75) = some (.inl (cs 6, 60, .inr (.inr (.inr (.inr (g)))))) := fx15
    refine hp_aast (r := (RX5, TX5, 10)) hx hb hZ 6 5 fx15 rfl g10 rfl (vp_in_nI (by omega) (by omega)) dX0_init_117 (fun V16 _ _ e17 o18 hZ => ?_)
    have e17 : V16 (n + 75) = some (.inl (cs 6, 60, .inr (.inr (.inr (.inr (va_up (g) ((nI i : Int32).toNatClampNeg) (some (n + 76 + 5 * i)))))))) := e17
    refine lv_iinc (v := nI (i + 1)) (lv' := [(1, .int (nI (i + 1))), (0, .ref (a))]) hx hb dX0_init_118 hl (k := 0) rfl (by exact nI_1 i) (by decide) rfl (fun ls hl => ?_)
    refine lv_goto (tgt := 99) hx hb dX0_init_121 (by decide) ?_
    have fx19 := (o18 (a) (by omega)).trans ((fr8 (a) (by omega) (by omega)).trans ((o4 (a) (by omega)).trans (f0)))
    have fx19 : V16 (a) = some (.inr (0, [.ref (n), .int (0), .ref (n + 13), .ref (n + 74), .int (0), .ref (n + 75), .int (0)])) := fx19
    have fx20 := (o18 (n + 76 + 5 * i) (by omega)).trans (g10)
    have fx20 : V16 (n + 76 + 5 * i) = some (.inr (5, [.int (0), .int (0), .int (0), .int (0), .int (0), .int (0), .int (0), .int (0), .ref (n + 76 + 5 * i + 1), .ref (n + 76 + 5 * i + 3)])) := fx20
    have fx21 := (o18 (n + 76 + 5 * i + 1) (by omega)).trans (g11)
    have fx21 : V16 (n + 76 + 5 * i + 1) = some (.inr (9, [.ref (n + 76 + 5 * i + 2), .int (0)])) := fx21
    have fx22 := (o18 (n + 76 + 5 * i + 2) (by omega)).trans (g12)
    have fx22 : V16 (n + 76 + 5 * i + 2) = some (.inl (cs 0, 8, .inl (fun _ => 0))) := fx22
    have fx23 := (o18 (n + 76 + 5 * i + 3) (by omega)).trans (g13)
    have fx23 : V16 (n + 76 + 5 * i + 3) = some (.inr (9, [.ref (n + 76 + 5 * i + 4), .int (0)])) := fx23
    have fx24 := (o18 (n + 76 + 5 * i + 4) (by omega)).trans (g14)
    have fx24 : V16 (n + 76 + 5 * i + 4) = some (.inl (cs 0, 8, .inl (fun _ => 0))) := fx24
    refine W.widen (k := 76 + 5 * (i + 1)) (n := 630 + 30 * (i + 1)) (by omega) (by omega) ?_
    exact ih (i + 1) (by omega) _ _ _ ls _ (by rw [show n + 76 + 5 * (i + 1) = n + 76 + 5 * i + 5 from by omega]; exact hZ) fx19 e17 ⟨fun x hx9 => ((o18 (x) (by omega)).trans ((fr8 (x) (by omega) (by omega)).trans (o4 (x) (by omega)))).trans (fr.1 x hx9), fun j hj => by rcases Nat.lt_or_ge j i with h9 | h9; (· obtain ⟨e0, e1, e2, e3, e4, e5⟩ := fr.2 j h9; exact ⟨(hk_un (by omega) (by omega)).trans e0, ((o18 (n + 76 + 5 * j) (by omega)).trans ((fr8 (n + 76 + 5 * j) (by omega) (by omega)).trans (o4 (n + 76 + 5 * j) (by omega)))).trans e1, ((o18 (n + 76 + 5 * j + 1) (by omega)).trans ((fr8 (n + 76 + 5 * j + 1) (by omega) (by omega)).trans (o4 (n + 76 + 5 * j + 1) (by omega)))).trans e2, ((o18 (n + 76 + 5 * j + 2) (by omega)).trans ((fr8 (n + 76 + 5 * j + 2) (by omega) (by omega)).trans (o4 (n + 76 + 5 * j + 2) (by omega)))).trans e3, ((o18 (n + 76 + 5 * j + 3) (by omega)).trans ((fr8 (n + 76 + 5 * j + 3) (by omega) (by omega)).trans (o4 (n + 76 + 5 * j + 3) (by omega)))).trans e4, ((o18 (n + 76 + 5 * j + 4) (by omega)).trans ((fr8 (n + 76 + 5 * j + 4) (by omega) (by omega)).trans (o4 (n + 76 + 5 * j + 4) (by omega)))).trans e5⟩); (· obtain rfl : j = i := (by omega); exact ⟨hk_ue (by omega), fx20, fx21, fx22, fx23, fx24⟩)⟩ (lv_sub hl [0, 1] rfl)

set_option maxHeartbeats 4000000 in
set_option maxRecDepth 100000 in
theorem c_X0_init (l : Launch) (D : va_G) (cs : Nat → ClassId) (B : Nat) (V : hp_V) (n : Nat) (a : Nat) (f0 : V a = some (.inr (0, [.null, .int (0), .null, .null, .int (0), .null, .int (0)]))) : hp_M l yX0_init cX0_init 2 none ({ frames := 3, cells := 376, slots := 2430, locals := 62 }) D cs B V n [.ref (a)] (hp_QV D cs B (fun V' n' => n' = n + 376 ∧ fx_B cs V' a n ∧ ∀ x, x < n → x ≠ a → V' x = V x)) 376 (2430) := by
  refine hp_walk (R0 := RX0) (by decide) rfl ?_ (Nat.le_of_ble_eq_true rfl)
  intro p e s m below meth c ls hx hb hr hts hown hlocks hin hml hZ hl
  have hin : meth.name = "<init>" := hin
  have hl : lv_has ls 2 [(0, .ref (a))] := hl
  have lt_f0 := hZ.lt f0
  refine lv_aload_n hx hb dX0_init_0 rfl (lv_at hl 0 rfl) ?_
  refine W.objInit hx hb hown (hts _ oi_X0_3) (hts _ oi_i) (hts _ oi_c) rfl (by rw [hml]; exact hl.1) rfl dX0_init_1 (Nat.le_of_ble_eq_true rfl) (Nat.le_of_ble_eq_true rfl) ?_
  refine W.eq (g2 := F0 m 4 ls []) rfl ?_
  refine lv_aload_n hx hb dX0_init_4 rfl (lv_at hl 0 rfl) ?_
  refine lv_bipush (v := 6) hx hb dX0_init_5 (by decide) ?_
  refine hp_newq (C := RX9) (t0 := 7) (cA := cs 7) (N := 6) hx hb hts hown hZ kl_X0_9 (fun h => h.2.2.2.2.1) rfl (by decide) (by decide) (by decide) (Nat.le_of_ble_eq_true rfl) (Nat.le_of_ble_eq_true rfl) dX0_init_7 (fun V1 _ e2 o3 hZ => ?_)
  have e2 : V1 (n) = some (.inl (cs 7, 6, .inr (.inr (.inr (.inr (fun _ => none)))))) := e2
  have fx4 := (o3 (a) (hq_lt lt_f0 0)).trans (f0)
  have fx4 : V1 (a) = some (.inr (0, [.null, .int (0), .null, .null, .int (0), .null, .int (0)])) := fx4
  refine hp_putF hx hb hts hown hin hZ fx4 fp_X0_11 rfl rfl (Nat.le_of_ble_eq_true rfl) dX0_init_10 (fun V5 _ _ e6 o7 hZ => ?_)
  have e6 : V5 (a) = some (.inr (0, [.ref (n), .int (0), .null, .null, .int (0), .null, .int (0)])) := e6
  refine lv_iconst (v := 0) hx hb dX0_init_13 (by decide) ?_
  refine lv_istore_n (lv' := [(1, .int (0)), (0, .ref (a))]) hx hb dX0_init_14 rfl hl (by decide) rfl (fun ls hl => ?_)
  have fx8 := (o7 (n) (hq_lt lt_f0 0).symm).trans (e2)
  have fx8 : V5 (n) = some (.inl (cs 7, 6, .inr (.inr (.inr (.inr (fun _ => none)))))) := fx8
  refine W.widen (k := 1 + 2 * 0) (n := 6 + 14 * 0) (Nat.le_of_ble_eq_true rfl) (Nat.le_of_ble_eq_true rfl) ?_
  refine lp_X0_15 l D cs B hx hb hts hown hml a n V5 lt_f0 ?_ 6 0 (by decide) _ _ _ ls _ hZ e6 fx8 ⟨fun _ _ => rfl, fun j hj => absurd hj (Nat.not_lt_zero j)⟩ (by rw [nI_0]; exact lv_sub hl [0, 1] rfl)
  intro V9 _ _ ls g10 hZ fx11 fx12 fr13 hl
  refine lv_aload_n hx hb dX0_init_42 rfl (lv_at hl 1 rfl) ?_
  refine lv_bipush (v := 30) hx hb dX0_init_43 (by decide) ?_
  refine hp_newq (C := RX9) (t0 := 7) (cA := cs 7) (N := 30) hx hb hts hown hZ kl_X0_9 (fun h => h.2.2.2.2.1) rfl (by decide) (by decide) (by decide) (Nat.le_of_ble_eq_true rfl) (Nat.le_of_ble_eq_true rfl) dX0_init_45 (fun V14 _ e15 o16 hZ => ?_)
  have e15 : V14 (n + 13) = some (.inl (cs 7, 30, .inr (.inr (.inr (.inr (fun _ => none)))))) := e15
  have fx17 := (o16 (a) (hq_lt lt_f0 13)).trans (fx11)
  have fx17 : V14 (a) = some (.inr (0, [.ref (n), .int (0), .null, .null, .int (0), .null, .int (0)])) := fx17
  refine hp_putF hx hb hts hown hin hZ fx17 fp_X0_20 rfl rfl (Nat.le_of_ble_eq_true rfl) dX0_init_48 (fun V18 _ _ e19 o20 hZ => ?_)
  have e19 : V18 (a) = some (.inr (0, [.ref (n), .int (0), .ref (n + 13), .null, .int (0), .null, .int (0)])) := e19
  refine lv_iconst (v := 0) hx hb dX0_init_51 (by decide) ?_
  refine lv_istore_n (lv' := [(1, .int (0)), (0, .ref (a))]) hx hb dX0_init_52 rfl hl (by decide) rfl (fun ls hl => ?_)
  have fx21 := (o20 (n + 13) (hq_lt lt_f0 13).symm).trans (e15)
  have fx21 : V18 (n + 13) = some (.inl (cs 7, 30, .inr (.inr (.inr (.inr (fun _ => none)))))) := fx21
  refine W.widen (k := 14 + 2 * 0) (n := 120 + 14 * 0) (Nat.le_of_ble_eq_true rfl) (Nat.le_of_ble_eq_true rfl) ?_
  refine lp_X0_53 l D cs B hx hb hts hown hml a n V18 lt_f0 ?_ 30 0 (by decide) _ _ _ ls _ hZ e19 fx21 ⟨fun _ _ => rfl, fun j hj => absurd hj (Nat.not_lt_zero j)⟩ (by rw [nI_0]; exact lv_sub hl [0, 1] rfl)
  intro V22 _ _ ls g23 hZ fx24 fx25 fr26 hl
  refine lv_aload_n hx hb dX0_init_80 rfl (lv_at hl 1 rfl) ?_
  refine lv_bipush (v := 30) hx hb dX0_init_81 (by decide) ?_
  refine hp_newa (ty := .int) (t0 := 1) (cA := cs 1) (N := 30) (a0 := (30, .inl (fun _ => 0))) hx hb hts hZ rfl ac_int rfl rfl (fun _ => rfl) (by decide) (by decide) (by decide) (Nat.le_of_ble_eq_true rfl) (Nat.le_of_ble_eq_true rfl) dX0_init_83 (fun V27 _ e28 o29 hZ => ?_)
  have e28 : V27 (n + 74) = some (.inl (cs 1, 30, .inl (fun _ => 0))) := e28
  have fx30 := (o29 (a) (hq_lt lt_f0 74)).trans (fx24)
  have fx30 : V27 (a) = some (.inr (0, [.ref (n), .int (0), .ref (n + 13), .null, .int (0), .null, .int (0)])) := fx30
  refine hp_putF hx hb hts hown hin hZ fx30 fp_X0_23 rfl rfl (Nat.le_of_ble_eq_true rfl) dX0_init_85 (fun V31 _ _ e32 o33 hZ => ?_)
  have e32 : V31 (a) = some (.inr (0, [.ref (n), .int (0), .ref (n + 13), .ref (n + 74), .int (0), .null, .int (0)])) := e32
  refine lv_aload_n hx hb dX0_init_88 rfl (lv_at hl 1 rfl) ?_
  refine lv_bipush (v := 60) hx hb dX0_init_89 (by decide) ?_
  refine hp_newq (C := RX5) (t0 := 6) (cA := cs 6) (N := 60) hx hb hts hown hZ kl_X0_27 (fun h => h.2.2.2.1) rfl (by decide) (by decide) (by decide) (Nat.le_of_ble_eq_true rfl) (Nat.le_of_ble_eq_true rfl) dX0_init_91 (fun V34 _ e35 o36 hZ => ?_)
  have e35 : V34 (n + 75) = some (.inl (cs 6, 60, .inr (.inr (.inr (.inr (fun _ => none)))))) := e35
  have fx37 := (o36 (a) (hq_lt lt_f0 75)).trans (e32)
  have fx37 : V34 (a) = some (.inr (0, [.ref (n), .int (0), .ref (n + 13), .ref (n + 74), .int (0), .null, .int (0)])) := fx37
  refine hp_putF hx hb hts hown hin hZ fx37 fp_X0_29 rfl rfl (Nat.le_of_ble_eq_true rfl) dX0_init_94 (fun V38 _ _ e39 o40 hZ => ?_)
  have e39 : V38 (a) = some (.inr (0, [.ref (n), .int (0), .ref (n + 13), .ref (n + 74), .int (0), .ref (n + 75), .int (0)])) := e39
  refine lv_iconst (v := 0) hx hb dX0_init_97 (by decide) ?_
  refine lv_istore_n (lv' := [(1, .int (0)), (0, .ref (a))]) hx hb dX0_init_98 rfl hl (by decide) rfl (fun ls hl => ?_)
  have fx41 := (o40 (n + 75) (hq_lt lt_f0 75).symm).trans (e35)
  have fx41 : V38 (n + 75) = some (.inl (cs 6, 60, .inr (.inr (.inr (.inr (fun _ => none)))))) := fx41
  refine W.widen (k := 76 + 5 * 0) (n := 630 + 30 * 0) (Nat.le_of_ble_eq_true rfl) (Nat.le_of_ble_eq_true rfl) ?_
  refine lp_X0_99 l D cs B hx hb hts hown hml a n V38 lt_f0 ?_ 60 0 (by decide) _ _ _ ls _ hZ e39 fx41 ⟨fun _ _ => rfl, fun j hj => absurd hj (Nat.not_lt_zero j)⟩ (by rw [nI_0]; exact lv_sub hl [0, 1] rfl)
  intro V42 _ _ ls g43 hZ fx44 fx45 fr46 hl
  have fx47 := (fr46.1 (n + 74) (by omega)).trans ((o40 (n + 74) (hq_lt lt_f0 74).symm).trans ((o36 (n + 74) (hq_ne n 74 75 (by decide))).trans ((o33 (n + 74) (hq_lt lt_f0 74).symm).trans (e28))))
  have fx47 : V42 (n + 74) = some (.inl (cs 1, 30, .inl (fun _ => 0))) := fx47
  have fx48 := (fr46.1 (n) (by omega)).trans ((o40 (n) (hq_lt lt_f0 0).symm).trans ((o36 (n) (hq_ne n 0 75 (by decide))).trans ((o33 (n) (hq_lt lt_f0 0).symm).trans ((o29 (n) (hq_ne n 0 74 (by decide))).trans ((fr26.1 (n) (by omega)).trans ((o20 (n) (hq_lt lt_f0 0).symm).trans ((o16 (n) (hq_ne n 0 13 (by decide))).trans (fx12))))))))
  have fx48 : V42 (n) = some (.inl (cs 7, 6, .inr (.inr (.inr (.inr (g10)))))) := fx48
  have fx49 := (fr46.1 (n + 13) (by omega)).trans ((o40 (n + 13) (hq_lt lt_f0 13).symm).trans ((o36 (n + 13) (hq_ne n 13 75 (by decide))).trans ((o33 (n + 13) (hq_lt lt_f0 13).symm).trans ((o29 (n + 13) (hq_ne n 13 74 (by decide))).trans (fx25)))))
  have fx49 : V42 (n + 13) = some (.inl (cs 7, 30, .inr (.inr (.inr (.inr (g23)))))) := fx49
  exact hp_vret hx hb hr hlocks hZ ⟨rfl, ⟨fx44, fx47, ⟨_, fx48, fun j hj => ⟨(fr13.2 j hj).1, (fr46.1 (n + 1 + 2 * j) (by omega)).trans ((o40 (n + 1 + 2 * j) (by omega)).trans ((o36 (n + 1 + 2 * j) (by omega)).trans ((o33 (n + 1 + 2 * j) (by omega)).trans ((o29 (n + 1 + 2 * j) (by omega)).trans ((fr26.1 (n + 1 + 2 * j) (by omega)).trans ((o20 (n + 1 + 2 * j) (by omega)).trans ((o16 (n + 1 + 2 * j) (by omega)).trans ((fr13.2 j hj).2.1)))))))), (fr46.1 (n + 1 + 2 * j + 1) (by omega)).trans ((o40 (n + 1 + 2 * j + 1) (by omega)).trans ((o36 (n + 1 + 2 * j + 1) (by omega)).trans ((o33 (n + 1 + 2 * j + 1) (by omega)).trans ((o29 (n + 1 + 2 * j + 1) (by omega)).trans ((fr26.1 (n + 1 + 2 * j + 1) (by omega)).trans ((o20 (n + 1 + 2 * j + 1) (by omega)).trans ((o16 (n + 1 + 2 * j + 1) (by omega)).trans ((fr13.2 j hj).2.2))))))))⟩⟩, ⟨_, fx49, fun j hj => ⟨(fr26.2 j hj).1, (fr46.1 (n + 14 + 2 * j) (by omega)).trans ((o40 (n + 14 + 2 * j) (by omega)).trans ((o36 (n + 14 + 2 * j) (by omega)).trans ((o33 (n + 14 + 2 * j) (by omega)).trans ((o29 (n + 14 + 2 * j) (by omega)).trans ((fr26.2 j hj).2.1))))), (fr46.1 (n + 14 + 2 * j + 1) (by omega)).trans ((o40 (n + 14 + 2 * j + 1) (by omega)).trans ((o36 (n + 14 + 2 * j + 1) (by omega)).trans ((o33 (n + 14 + 2 * j + 1) (by omega)).trans ((o29 (n + 14 + 2 * j + 1) (by omega)).trans ((fr26.2 j hj).2.2)))))⟩⟩, ⟨_, fx45, fun j hj => ⟨(fr46.2 j hj).1, (fr46.2 j hj).2.1, (fr46.2 j hj).2.2.1, (fr46.2 j hj).2.2.2.1, (fr46.2 j hj).2.2.2.2.1, (fr46.2 j hj).2.2.2.2.2⟩⟩⟩, fun x hxn hxa => (fr46.1 (x) (by omega)).trans ((o40 (x) hxa).trans ((o36 (x) (hq_lt hxn 75)).trans ((o33 (x) hxa).trans ((o29 (x) (hq_lt hxn 74)).trans ((fr26.1 (x) (by omega)).trans ((o20 (x) hxa).trans ((o16 (x) (hq_lt hxn 13)).trans ((fr13.1 (x) (by omega)).trans ((o7 (x) hxa).trans (o3 (x) (hq_lt hxn 0)))))))))))⟩ dX0_init_124

theorem hq_in8 {k : Int32} (h0 : 0 ≤ k) (h8 : k < 8) : vp_in k 8 := vp_in_iff.mpr ⟨Int32.le_iff_toInt_le.mp h0, Int32.lt_iff_toInt_lt.mp h8⟩
theorem hq_any8 {g : Nat → Option Nat} {k : Int32} (h : vp_in k 8) (h0 : ∃ y, g 0 = some y) (h1 : ∃ y, g 1 = some y) (h2 : ∃ y, g 2 = some y) (h3 : ∃ y, g 3 = some y) (h4 : ∃ y, g 4 = some y) (h5 : ∃ y, g 5 = some y) (h6 : ∃ y, g 6 = some y) (h7 : ∃ y, g 7 = some y) : ∃ y, g k.toNatClampNeg = some y := by
  obtain ⟨j, hj, rfl⟩ := vp_in_of h (by decide)
  rw [nI_clamp (by omega)]
  match j, hj with
  | 0, _ => exact h0
  | 1, _ => exact h1
  | 2, _ => exact h2
  | 3, _ => exact h3
  | 4, _ => exact h4
  | 5, _ => exact h5
  | 6, _ => exact h6
  | 7, _ => exact h7

set_option maxHeartbeats 4000000 in
set_option maxRecDepth 100000 in
theorem c_X11_isPlace0 (l : Launch) (D : va_G) (cs : Nat → ClassId) (B : Nat) (V : hp_V) (n : Nat) (a q : Nat) (v t u : Int32) (f0 : V a = some (.inr (11, [.ref (q), .ref (q + 2), .ref (q + 5), .ref (q + 46), .ref (q + 50), .ref (q + 62), .ref (q + 87), .int (0), .ref (q + 88), .ref (q + 465)]))) (f1 : V (q + 88) = some (.inr (0, [.ref (q + 89), .int (0), .ref (q + 102), .ref (q + 163), .int (0), .ref (q + 164), .int (0)]))) : hp_M l yX11_isPlace cX11_isPlace 4 (some .boolean) ({ frames := 1, cells := 0, slots := 0, locals := 21 }) D cs B V n [.ref (a), .int (v), .int (t), .int (u)] (hp_QI D cs B (fun r V' n' => V = V' ∧ n = n' ∧ 0 = r)) 0 (0) := by
  refine hp_walk (R0 := RX11) (by decide) rfl ?_ (Nat.le_of_ble_eq_true rfl)
  intro p e s m below meth c ls hx hb hr hts hown hlocks hin hml hZ hl
  have hl : lv_has ls 4 [(0, .ref (a)), (1, .int (v)), (2, .int (t)), (3, .int (u))] := hl
  refine lv_iload_n hx hb dX11_isPlace_0 rfl (lv_at hl 1 rfl) ?_
  refine lv_if_lt (tgt := 38) hx hb dX11_isPlace_1 (by decide) (fun c1 => ?_) (fun c1 => ?_)
  · refine lv_iconst (v := 0) hx hb dX11_isPlace_38 (by decide) ?_
    exact hp_zret hx hb hr rfl hlocks hZ ⟨rfl, rfl, rfl⟩ dX11_isPlace_39
  · refine lv_iload_n hx hb dX11_isPlace_4 rfl (lv_at hl 1 rfl) ?_
    refine lv_aload_n hx hb dX11_isPlace_5 rfl (lv_at hl 0 rfl) ?_
    refine hp_get (v := .ref (q + 88)) hx hb hts hown hZ f0 fl_X11_64 rfl dX11_isPlace_6 ?_
    refine hp_get (v := .int (0)) hx hb hts hown hZ f1 fl_X11_96 rfl dX11_isPlace_9 ?_
    refine lv_icmp_ge (tgt := 38) hx hb dX11_isPlace_12 (by decide) (fun c2 => ?_) (fun c2 => absurd (Int32.not_lt.mp c1) c2)
    refine lv_iconst (v := 0) hx hb dX11_isPlace_38 (by decide) ?_
    exact hp_zret hx hb hr rfl hlocks hZ ⟨rfl, rfl, rfl⟩ dX11_isPlace_39

set_option maxHeartbeats 4000000 in
set_option maxRecDepth 100000 in
theorem c_X11_formAt0 (l : Launch) (D : va_G) (cs : Nat → ClassId) (B : Nat) (V : hp_V) (n : Nat) (a q : Nat) (v t u k : Int32) (f0 : V a = some (.inr (11, [.ref (q), .ref (q + 2), .ref (q + 5), .ref (q + 46), .ref (q + 50), .ref (q + 62), .ref (q + 87), .int (0), .ref (q + 88), .ref (q + 465)]))) (f1 : V (q + 88) = some (.inr (0, [.ref (q + 89), .int (0), .ref (q + 102), .ref (q + 163), .int (0), .ref (q + 164), .int (0)]))) : hp_M l yX11_formAt cX11_formAt 5 (some (.object "VerbSchool$Form")) ({ frames := 2, cells := 0, slots := 0, locals := 44 }) D cs B V n [.ref (a), .int (v), .int (t), .int (u), .int (k)] (hp_QR D cs B (fun r V' n' => V = V' ∧ n = n' ∧ none = r)) 0 (0) := by
  refine hp_walk (R0 := RX11) (by decide) rfl ?_ (Nat.le_of_ble_eq_true rfl)
  intro p e s m below meth c ls hx hb hr hts hown hlocks hin hml hZ hl
  have hl : lv_has ls 5 [(0, .ref (a)), (1, .int (v)), (2, .int (t)), (3, .int (u)), (4, .int (k))] := hl
  refine lv_aload_n hx hb dX11_formAt_0 rfl (lv_at hl 0 rfl) ?_
  refine lv_iload_n hx hb dX11_formAt_1 rfl (lv_at hl 1 rfl) ?_
  refine lv_iload_n hx hb dX11_formAt_2 rfl (lv_at hl 2 rfl) ?_
  refine lv_iload_n hx hb dX11_formAt_3 rfl (lv_at hl 3 rfl) ?_
  refine hp_calli (hp_runV (As := [.int (v), .int (t), .int (u)]) (rest := []) hx hb hml hown hts (c_X11_isPlace0 l D cs B V (n) (a) q _ _ _ f0 f1) hZ f0 cv_X11_141 rfl rfl ⟨Nat.le_of_ble_eq_true rfl, Nat.le_of_ble_eq_true rfl⟩ rfl hl.1 rfl (Nat.le_of_ble_eq_true rfl) dX11_formAt_4 ⟨(Nat.le_of_ble_eq_true rfl), (Nat.le_of_ble_eq_true rfl)⟩) hZ (fun r4 V1 n2 _ _ hw3 hZ => ?_)
  obtain ⟨rfl, rfl, rfl⟩ := hw3
  refine lv_if_ne (tgt := 12) hx hb dX11_formAt_7 (by decide) (fun c5 => absurd (by decide) c5) (fun c5 => ?_)
  refine lv_null hx hb dX11_formAt_10 ?_
  exact hp_aret (r := none) hx hb hr (Or.inl ⟨_, rfl⟩) hlocks hZ ⟨rfl, rfl, rfl⟩ dX11_formAt_11

set_option maxHeartbeats 4000000 in
set_option maxRecDepth 100000 in
theorem c_X9_add4 (l : Launch) (D : va_G) (cs : Nat → ClassId) (B : Nat) (V : hp_V) (n : Nat) (t u z : Nat) (k : Int32) (g : Nat → Int32) (htu : t ≠ u) (hz : z < 4000) (f0 : V t = some (.inr (9, [.ref (u), .int (nI z)]))) (f1 : V u = some (.inl (cs 0, 4000, .inl (g)))) : hp_M l yX9_add cX9_add 2 (some .boolean) ({ frames := 1, cells := 0, slots := 0, locals := 21 }) D cs B V n [.ref (t), .int (k)] (hp_QI D cs B (fun r V' n' => r = 1 ∧ n' = n ∧ V' t = some (.inr (9, [.ref (u), .int (nI (z + 1))])) ∧ (∃ g : Nat → Int32, V' u = some (.inl (cs 0, 4000, .inl (g)))) ∧ ∀ x, x ≠ t → x ≠ u → V' x = V x)) 0 (0) := by
  refine hp_walk (R0 := RX9) (by decide) rfl ?_ (Nat.le_of_ble_eq_true rfl)
  intro p e s m below meth c ls hx hb hr hts hown hlocks hin hml hZ hl
  have hl : lv_has ls 2 [(0, .ref (t)), (1, .int (k))] := hl
  refine lv_aload_n hx hb dX9_add_0 rfl (lv_at hl 0 rfl) ?_
  refine hp_get (v := .int (nI z)) hx hb hts hown hZ f0 fl_X9_21 rfl dX9_add_1 ?_
  refine lv_aload_n hx hb dX9_add_4 rfl (lv_at hl 0 rfl) ?_
  refine hp_get (v := .ref (u)) hx hb hts hown hZ f0 fl_X9_15 rfl dX9_add_5 ?_
  refine hp_alen (v := 4000) hx hb hZ 0 f1 rfl rfl dX9_add_8 ?_
  refine lv_icmp_lt (tgt := 14) hx hb dX9_add_9 (by decide) (fun c1 => ?_) (fun c1 => absurd (show nI z < nI 4000 from nI_lt hz (by decide)) c1)
  refine lv_aload_n hx hb dX9_add_14 rfl (lv_at hl 0 rfl) ?_
  refine hp_get (v := .ref (u)) hx hb hts hown hZ f0 fl_X9_15 rfl dX9_add_15 ?_
  refine lv_aload_n hx hb dX9_add_18 rfl (lv_at hl 0 rfl) ?_
  refine hp_get (v := .int (nI z)) hx hb hts hown hZ f0 fl_X9_21 rfl dX9_add_19 ?_
  refine lv_iload_n hx hb dX9_add_22 rfl (lv_at hl 1 rfl) ?_
  refine lv_i2b (v := (k).toInt8.toInt32) hx hb dX9_add_23 rfl ?_
  refine hp_bast hx hb hZ f1 (vp_in_nI (by omega) (by omega)) dX9_add_24 (fun V2 _ _ e3 o4 hZ => ?_)
  have e3 : V2 (u) = some (.inl (cs 0, 4000, .inl (upd (g) ((nI z : Int32).toNatClampNeg) (((k).toInt8.toInt32 : Int32).toInt8.toInt32)))) := e3
  refine lv_aload_n hx hb dX9_add_25 rfl (lv_at hl 0 rfl) ?_
  refine lv_dup hx hb dX9_add_26 rfl ?_
  have f5 := (o4 (t) (by omega)).trans (f0)
  have f5 : V2 (t) = some (.inr (9, [.ref (u), .int (nI z)])) := f5
  refine hp_get (v := .int (nI z)) hx hb hts hown hZ f5 fl_X9_21 rfl dX9_add_27 ?_
  refine lv_iconst (v := 1) hx hb dX9_add_30 (by decide) ?_
  refine lv_iadd hx hb dX9_add_31 ?_
  refine lv_topi (fun y6 ey7 => ?_)
  obtain rfl : y6 = nI (z + 1) := ey7.trans (nI_1 z)
  refine hp_put hx hb hts hown hZ f5 fp_X9_21 rfl rfl (Nat.le_of_ble_eq_true rfl) dX9_add_32 (fun V8 _ _ e9 o10 hZ => ?_)
  have e9 : V8 (t) = some (.inr (9, [.ref (u), .int (nI (z + 1))])) := e9
  refine lv_iconst (v := 1) hx hb dX9_add_35 (by decide) ?_
  have f11 := (o10 (u) (by omega)).trans (e3)
  have f11 : V8 (u) = some (.inl (cs 0, 4000, .inl (upd (g) ((nI z : Int32).toNatClampNeg) (((k).toInt8.toInt32 : Int32).toInt8.toInt32)))) := f11
  exact hp_zret hx hb hr rfl hlocks hZ ⟨rfl, rfl, e9, ⟨_, f11⟩, fun x hx8 hx9 => (o10 (x) (by omega)).trans (o4 (x) (by omega))⟩ dX9_add_36

set_option maxHeartbeats 4000000 in
set_option maxRecDepth 100000 in
theorem c_X9_addInt4 (l : Launch) (D : va_G) (cs : Nat → ClassId) (B : Nat) (V : hp_V) (n : Nat) (t u z : Nat) (k : Int32) (g : Nat → Int32) (htu : t ≠ u) (hz : z + 4 ≤ 4000) (f0 : V t = some (.inr (9, [.ref (u), .int (nI z)]))) (f1 : V u = some (.inl (cs 0, 4000, .inl (g)))) : hp_M l yX9_addInt cX9_addInt 3 none ({ frames := 2, cells := 0, slots := 0, locals := 42 }) D cs B V n [.ref (t), .int (k)] (hp_QV D cs B (fun V' n' => n' = n ∧ V' t = some (.inr (9, [.ref (u), .int (nI (z + 4))])) ∧ (∃ g : Nat → Int32, V' u = some (.inl (cs 0, 4000, .inl (g)))) ∧ ∀ x, x ≠ t → x ≠ u → V' x = V x)) 0 (0) := by
  refine hp_walk (R0 := RX9) (by decide) rfl ?_ (Nat.le_of_ble_eq_true rfl)
  intro p e s m below meth c ls hx hb hr hts hown hlocks hin hml hZ hl
  have hl : lv_has ls 3 [(0, .ref (t)), (1, .int (k))] := hl
  refine lv_bipush (v := 24) hx hb dX9_addInt_0 (by decide) ?_
  refine lv_istore_n (lv' := [(2, .int (24)), (0, .ref (t)), (1, .int (k))]) hx hb dX9_addInt_2 rfl hl (by decide) rfl (fun ls hl => ?_)
  refine lv_iload_n hx hb dX9_addInt_3 rfl (lv_at hl 0 rfl) ?_
  refine lv_if_lt (tgt := 21) hx hb dX9_addInt_4 (by decide) (fun c1 => absurd c1 (by decide)) (fun c1 => ?_)
  refine lv_aload_n hx hb dX9_addInt_7 rfl (lv_at hl 1 rfl) ?_
  refine lv_iload_n hx hb dX9_addInt_8 rfl (lv_at hl 2 rfl) ?_
  refine lv_iload_n hx hb dX9_addInt_9 rfl (lv_at hl 0 rfl) ?_
  refine lv_ishr hx hb dX9_addInt_10 ?_
  refine hp_calli (hp_runV (As := [.int ((k >>> (24 &&& 31)))]) (rest := []) hx hb hml hown hts (c_X9_add4 l D cs B V (n) (t) (u) (z) (k >>> (24 &&& 31)) _ htu (by omega) f0 f1) hZ f0 cv_X9_25 rfl rfl ⟨Nat.le_of_ble_eq_true rfl, Nat.le_of_ble_eq_true rfl⟩ rfl hl.1 rfl (Nat.le_of_ble_eq_true rfl) dX9_addInt_11 ⟨(Nat.le_of_ble_eq_true rfl), (Nat.le_of_ble_eq_true rfl)⟩) hZ (fun r5 V2 n3 _ _ hw4 hZ => ?_)
  obtain ⟨rfl, hn6, f8, ⟨g10, f9⟩, fr7⟩ := hw4
  have hn6 : n = n3 := hn6.symm
  subst hn6
  refine lv_pop hx hb dX9_addInt_14 rfl ?_
  refine lv_iinc (v := 16) (lv' := [(2, .int (16)), (0, .ref (t)), (1, .int (k))]) hx hb dX9_addInt_15 hl (k := 0) rfl (by decide) (by decide) rfl (fun ls hl => ?_)
  refine lv_goto (tgt := 3) hx hb dX9_addInt_18 (by decide) ?_
  refine lv_iload_n hx hb dX9_addInt_3 rfl (lv_at hl 0 rfl) ?_
  refine lv_if_lt (tgt := 21) hx hb dX9_addInt_4 (by decide) (fun c11 => absurd c11 (by decide)) (fun c11 => ?_)
  refine lv_aload_n hx hb dX9_addInt_7 rfl (lv_at hl 1 rfl) ?_
  refine lv_iload_n hx hb dX9_addInt_8 rfl (lv_at hl 2 rfl) ?_
  refine lv_iload_n hx hb dX9_addInt_9 rfl (lv_at hl 0 rfl) ?_
  refine lv_ishr hx hb dX9_addInt_10 ?_
  refine hp_calli (hp_runV (As := [.int ((k >>> (16 &&& 31)))]) (rest := []) hx hb hml hown hts (c_X9_add4 l D cs B V2 (n) (t) (u) (z + 1) (k >>> (16 &&& 31)) _ htu (by omega) f8 f9) hZ f8 cv_X9_25 rfl rfl ⟨Nat.le_of_ble_eq_true rfl, Nat.le_of_ble_eq_true rfl⟩ rfl hl.1 rfl (Nat.le_of_ble_eq_true rfl) dX9_addInt_11 ⟨(Nat.le_of_ble_eq_true rfl), (Nat.le_of_ble_eq_true rfl)⟩) hZ (fun r15 V12 n13 _ _ hw14 hZ => ?_)
  obtain ⟨rfl, hn16, f18, ⟨g20, f19⟩, fr17⟩ := hw14
  have hn16 : n = n13 := hn16.symm
  subst hn16
  refine lv_pop hx hb dX9_addInt_14 rfl ?_
  refine lv_iinc (v := 8) (lv' := [(2, .int (8)), (0, .ref (t)), (1, .int (k))]) hx hb dX9_addInt_15 hl (k := 0) rfl (by decide) (by decide) rfl (fun ls hl => ?_)
  refine lv_goto (tgt := 3) hx hb dX9_addInt_18 (by decide) ?_
  refine lv_iload_n hx hb dX9_addInt_3 rfl (lv_at hl 0 rfl) ?_
  refine lv_if_lt (tgt := 21) hx hb dX9_addInt_4 (by decide) (fun c21 => absurd c21 (by decide)) (fun c21 => ?_)
  refine lv_aload_n hx hb dX9_addInt_7 rfl (lv_at hl 1 rfl) ?_
  refine lv_iload_n hx hb dX9_addInt_8 rfl (lv_at hl 2 rfl) ?_
  refine lv_iload_n hx hb dX9_addInt_9 rfl (lv_at hl 0 rfl) ?_
  refine lv_ishr hx hb dX9_addInt_10 ?_
  refine hp_calli (hp_runV (As := [.int ((k >>> (8 &&& 31)))]) (rest := []) hx hb hml hown hts (c_X9_add4 l D cs B V12 (n) (t) (u) (z + 2) (k >>> (8 &&& 31)) _ htu (by omega) f18 f19) hZ f18 cv_X9_25 rfl rfl ⟨Nat.le_of_ble_eq_true rfl, Nat.le_of_ble_eq_true rfl⟩ rfl hl.1 rfl (Nat.le_of_ble_eq_true rfl) dX9_addInt_11 ⟨(Nat.le_of_ble_eq_true rfl), (Nat.le_of_ble_eq_true rfl)⟩) hZ (fun r25 V22 n23 _ _ hw24 hZ => ?_)
  obtain ⟨rfl, hn26, f28, ⟨g30, f29⟩, fr27⟩ := hw24
  have hn26 : n = n23 := hn26.symm
  subst hn26
  refine lv_pop hx hb dX9_addInt_14 rfl ?_
  refine lv_iinc (v := 0) (lv' := [(2, .int (0)), (0, .ref (t)), (1, .int (k))]) hx hb dX9_addInt_15 hl (k := 0) rfl (by decide) (by decide) rfl (fun ls hl => ?_)
  refine lv_goto (tgt := 3) hx hb dX9_addInt_18 (by decide) ?_
  refine lv_iload_n hx hb dX9_addInt_3 rfl (lv_at hl 0 rfl) ?_
  refine lv_if_lt (tgt := 21) hx hb dX9_addInt_4 (by decide) (fun c31 => absurd c31 (by decide)) (fun c31 => ?_)
  refine lv_aload_n hx hb dX9_addInt_7 rfl (lv_at hl 1 rfl) ?_
  refine lv_iload_n hx hb dX9_addInt_8 rfl (lv_at hl 2 rfl) ?_
  refine lv_iload_n hx hb dX9_addInt_9 rfl (lv_at hl 0 rfl) ?_
  refine lv_ishr hx hb dX9_addInt_10 ?_
  refine hp_calli (hp_runV (As := [.int ((k >>> (0 &&& 31)))]) (rest := []) hx hb hml hown hts (c_X9_add4 l D cs B V22 (n) (t) (u) (z + 3) (k >>> (0 &&& 31)) _ htu (by omega) f28 f29) hZ f28 cv_X9_25 rfl rfl ⟨Nat.le_of_ble_eq_true rfl, Nat.le_of_ble_eq_true rfl⟩ rfl hl.1 rfl (Nat.le_of_ble_eq_true rfl) dX9_addInt_11 ⟨(Nat.le_of_ble_eq_true rfl), (Nat.le_of_ble_eq_true rfl)⟩) hZ (fun r35 V32 n33 _ _ hw34 hZ => ?_)
  obtain ⟨rfl, hn36, f38, ⟨g40, f39⟩, fr37⟩ := hw34
  have hn36 : n = n33 := hn36.symm
  subst hn36
  refine lv_pop hx hb dX9_addInt_14 rfl ?_
  refine lv_iinc (v := -8) (lv' := [(2, .int (-8)), (0, .ref (t)), (1, .int (k))]) hx hb dX9_addInt_15 hl (k := 0) rfl (by decide) (by decide) rfl (fun ls hl => ?_)
  refine lv_goto (tgt := 3) hx hb dX9_addInt_18 (by decide) ?_
  refine lv_iload_n hx hb dX9_addInt_3 rfl (lv_at hl 0 rfl) ?_
  refine lv_if_lt (tgt := 21) hx hb dX9_addInt_4 (by decide) (fun c41 => ?_) (fun c41 => absurd (by decide) c41)
  exact hp_vret hx hb hr hlocks hZ ⟨rfl, f38, ⟨_, f39⟩, fun x hx8 hx9 => (fr37 (x) (by omega) (by omega)).trans ((fr27 (x) (by omega) (by omega)).trans ((fr17 (x) (by omega) (by omega)).trans (fr7 (x) (by omega) (by omega))))⟩ dX9_addInt_21

set_option maxHeartbeats 4000000 in
set_option maxRecDepth 100000 in
theorem lp_X4_f2 (l : Launch) (D : va_G) (cs : Nat → ClassId) (B : Nat) {p : Program} {e : Env} {s : State} {m : MethodId} {args : Array Value} {below : List Frame} {meth : Method} {c : Code} {Q : State → Prop} (hx : p.tables.exec = Jvm.exec) (hb : c.code = cX4_forget) (hts : ∀ w ∈ TBG, w.before args s = true) (hown : s.vm.findClass RX4 = some m.cls) (hml : c.maxLocals = 2) (t t1 t2 n : Nat) (d1 : t ≠ t1) (d2 : t ≠ t2) (d3 : t1 ≠ t2) (VE : hp_V)
    (kk : ∀ (V : hp_V) (H : Heap) (locs : List Loc) (ls : Array Slot) (g1 : Nat → Int32) (g2 : Nat → Int32), hp_Z D cs B s V H (n) locs → V (t) = some (.inr (4, [.ref (t1), .ref (t2)])) → V (t1) = some (.inl (cs 1, 60, .inl (g1))) → V (t2) = some (.inl (cs 1, 3, .inl (g2))) → (∀ x, x ≠ t1 → x ≠ t2 → V x = VE x) → lv_has ls 2 [(1, .int (nI 60)), (0, .ref (t))] → W p l e ({ frames := 1, cells := 0, slots := 0, locals := 21 }) s m args below meth c H locs (0) (0) Q (F0 m 21 ls [])) :
    ∀ (k i : Nat), i + k = 60 → ∀ (V : hp_V) (H : Heap) (locs : List Loc) (ls : Array Slot) (g1 : Nat → Int32) (g2 : Nat → Int32), hp_Z D cs B s V H (n) locs → V (t) = some (.inr (4, [.ref (t1), .ref (t2)])) → V (t1) = some (.inl (cs 1, 60, .inl (g1))) → V (t2) = some (.inl (cs 1, 3, .inl (g2))) → (∀ x, x ≠ t1 → x ≠ t2 → V x = VE x) → lv_has ls 2 [(1, .int (nI i)), (0, .ref (t))] → W p l e ({ frames := 1, cells := 0, slots := 0, locals := 21 }) s m args below meth c H locs (0) (0) Q (F0 m 2 ls []) := by
  intro k
  induction k with
  | zero =>
    intro i hi V H locs ls g1 g2 hZ f0 f1 f2 fr hl
    obtain rfl : i = 60 := by omega
    refine lv_iload_n hx hb dX4_forget_2 rfl (lv_at hl 0 rfl) ?_
    refine lv_bipush (v := 60) hx hb dX4_forget_3 (by decide) ?_
    refine lv_icmp_ge (tgt := 21) hx hb dX4_forget_5 (by decide) (fun c1 => ?_) (fun c1 => absurd ((by decide)) c1)
    exact kk V H locs ls _ _ hZ f0 f1 f2 fr hl
  | succ k ih =>
    intro i hi V H locs ls g1 g2 hZ f0 f1 f2 fr hl
    have lt_f0 := hZ.lt f0
    have lt_f1 := hZ.lt f1
    have lt_f2 := hZ.lt f2
    refine lv_iload_n hx hb dX4_forget_2 rfl (lv_at hl 0 rfl) ?_
    refine lv_bipush (v := 60) hx hb dX4_forget_3 (by decide) ?_
    refine lv_icmp_ge (tgt := 21) hx hb dX4_forget_5 (by decide) (fun c1 => absurd c1 (show ¬ nI 60 ≤ nI i from nI_ge (by omega) (by decide))) (fun c1 => ?_)
    refine lv_aload_n hx hb dX4_forget_8 rfl (lv_at hl 1 rfl) ?_
    refine hp_get (v := .ref (t1)) hx hb hts hown hZ f0 fl_X4_9 rfl dX4_forget_9 ?_
    refine lv_iload_n hx hb dX4_forget_12 rfl (lv_at hl 0 rfl) ?_
    refine lv_iconst (v := 0) hx hb dX4_forget_13 (by decide) ?_
    refine hp_iast hx hb hZ f1 (vp_in_nI (by omega) (by omega)) dX4_forget_14 (fun V2 _ _ e3 o4 hZ => ?_)
    have e3 : V2 (t1) = some (.inl (cs 1, 60, .inl (upd (g1) ((nI i : Int32).toNatClampNeg) (0)))) := e3
    refine lv_iinc (v := nI (i + 1)) (lv' := [(1, .int (nI (i + 1))), (0, .ref (t))]) hx hb dX4_forget_15 hl (k := 0) rfl (by exact nI_1 i) (by decide) rfl (fun ls hl => ?_)
    refine lv_goto (tgt := 2) hx hb dX4_forget_18 (by decide) ?_
    have f5 := (o4 (t) (by omega)).trans (f0)
    have f5 : V2 (t) = some (.inr (4, [.ref (t1), .ref (t2)])) := f5
    have f6 := (o4 (t2) (by omega)).trans (f2)
    have f6 : V2 (t2) = some (.inl (cs 1, 3, .inl (g2))) := f6
    exact ih (i + 1) (by omega) _ _ _ ls _ _ hZ f5 e3 f6 (fun x h91 h92 => (o4 (x) (by omega)).trans (fr x h91 h92)) (lv_sub hl [0, 1] rfl)

set_option maxHeartbeats 4000000 in
set_option maxRecDepth 100000 in
theorem lp_X4_f23 (l : Launch) (D : va_G) (cs : Nat → ClassId) (B : Nat) {p : Program} {e : Env} {s : State} {m : MethodId} {args : Array Value} {below : List Frame} {meth : Method} {c : Code} {Q : State → Prop} (hx : p.tables.exec = Jvm.exec) (hb : c.code = cX4_forget) (hts : ∀ w ∈ TBG, w.before args s = true) (hown : s.vm.findClass RX4 = some m.cls) (hml : c.maxLocals = 2) (t t1 t2 n : Nat) (d1 : t ≠ t1) (d2 : t ≠ t2) (d3 : t1 ≠ t2) (VE : hp_V)
    (kk : ∀ (V : hp_V) (H : Heap) (locs : List Loc) (ls : Array Slot) (g1 : Nat → Int32) (g2 : Nat → Int32), hp_Z D cs B s V H (n) locs → V (t) = some (.inr (4, [.ref (t1), .ref (t2)])) → V (t1) = some (.inl (cs 1, 60, .inl (g1))) → V (t2) = some (.inl (cs 1, 3, .inl (g2))) → (∀ x, x ≠ t1 → x ≠ t2 → V x = VE x) → lv_has ls 2 [(1, .int (nI 3)), (0, .ref (t))] → W p l e ({ frames := 1, cells := 0, slots := 0, locals := 21 }) s m args below meth c H locs (0) (0) Q (F0 m 41 ls [])) :
    ∀ (k i : Nat), i + k = 3 → ∀ (V : hp_V) (H : Heap) (locs : List Loc) (ls : Array Slot) (g1 : Nat → Int32) (g2 : Nat → Int32), hp_Z D cs B s V H (n) locs → V (t) = some (.inr (4, [.ref (t1), .ref (t2)])) → V (t1) = some (.inl (cs 1, 60, .inl (g1))) → V (t2) = some (.inl (cs 1, 3, .inl (g2))) → (∀ x, x ≠ t1 → x ≠ t2 → V x = VE x) → lv_has ls 2 [(1, .int (nI i)), (0, .ref (t))] → W p l e ({ frames := 1, cells := 0, slots := 0, locals := 21 }) s m args below meth c H locs (0) (0) Q (F0 m 23 ls []) := by
  intro k
  induction k with
  | zero =>
    intro i hi V H locs ls g1 g2 hZ f0 f1 f2 fr hl
    obtain rfl : i = 3 := by omega
    refine lv_iload_n hx hb dX4_forget_23 rfl (lv_at hl 0 rfl) ?_
    refine lv_iconst (v := 3) hx hb dX4_forget_24 (by decide) ?_
    refine lv_icmp_ge (tgt := 41) hx hb dX4_forget_25 (by decide) (fun c1 => ?_) (fun c1 => absurd ((by decide)) c1)
    exact kk V H locs ls _ _ hZ f0 f1 f2 fr hl
  | succ k ih =>
    intro i hi V H locs ls g1 g2 hZ f0 f1 f2 fr hl
    have lt_f0 := hZ.lt f0
    have lt_f1 := hZ.lt f1
    have lt_f2 := hZ.lt f2
    refine lv_iload_n hx hb dX4_forget_23 rfl (lv_at hl 0 rfl) ?_
    refine lv_iconst (v := 3) hx hb dX4_forget_24 (by decide) ?_
    refine lv_icmp_ge (tgt := 41) hx hb dX4_forget_25 (by decide) (fun c1 => absurd c1 (show ¬ nI 3 ≤ nI i from nI_ge (by omega) (by decide))) (fun c1 => ?_)
    refine lv_aload_n hx hb dX4_forget_28 rfl (lv_at hl 1 rfl) ?_
    refine hp_get (v := .ref (t2)) hx hb hts hown hZ f0 fl_X4_15 rfl dX4_forget_29 ?_
    refine lv_iload_n hx hb dX4_forget_32 rfl (lv_at hl 0 rfl) ?_
    refine lv_iconst (v := -1) hx hb dX4_forget_33 (by decide) ?_
    refine hp_iast hx hb hZ f2 (vp_in_nI (by omega) (by omega)) dX4_forget_34 (fun V2 _ _ e3 o4 hZ => ?_)
    have e3 : V2 (t2) = some (.inl (cs 1, 3, .inl (upd (g2) ((nI i : Int32).toNatClampNeg) (-1)))) := e3
    refine lv_iinc (v := nI (i + 1)) (lv' := [(1, .int (nI (i + 1))), (0, .ref (t))]) hx hb dX4_forget_35 hl (k := 0) rfl (by exact nI_1 i) (by decide) rfl (fun ls hl => ?_)
    refine lv_goto (tgt := 23) hx hb dX4_forget_38 (by decide) ?_
    have f5 := (o4 (t) (by omega)).trans (f0)
    have f5 : V2 (t) = some (.inr (4, [.ref (t1), .ref (t2)])) := f5
    have f6 := (o4 (t1) (by omega)).trans (f1)
    have f6 : V2 (t1) = some (.inl (cs 1, 60, .inl (g1))) := f6
    exact ih (i + 1) (by omega) _ _ _ ls _ _ hZ f5 f6 e3 (fun x h91 h92 => (o4 (x) (by omega)).trans (fr x h91 h92)) (lv_sub hl [0, 1] rfl)

set_option maxHeartbeats 4000000 in
set_option maxRecDepth 100000 in
theorem c_X4_forget (l : Launch) (D : va_G) (cs : Nat → ClassId) (B : Nat) (V : hp_V) (n : Nat) (t t1 t2 : Nat) (d1 : t ≠ t1) (d2 : t ≠ t2) (d3 : t1 ≠ t2) (g1 g2 : Nat → Int32) (f0 : V t = some (.inr (4, [.ref (t1), .ref (t2)]))) (f1 : V t1 = some (.inl (cs 1, 60, .inl (g1)))) (f2 : V t2 = some (.inl (cs 1, 3, .inl (g2)))) : hp_M l yX4_forget cX4_forget 2 none ({ frames := 1, cells := 0, slots := 0, locals := 21 }) D cs B V n [.ref (t)] (hp_QV D cs B (fun V' n' => n' = n ∧ (∃ g : Nat → Int32, V' t1 = some (.inl (cs 1, 60, .inl (g)))) ∧ (∃ g : Nat → Int32, V' t2 = some (.inl (cs 1, 3, .inl (g)))) ∧ ∀ x, x ≠ t1 → x ≠ t2 → V' x = V x)) 0 (0) := by
  refine hp_walk (R0 := RX4) (by decide) rfl ?_ (Nat.le_of_ble_eq_true rfl)
  intro p e s m below meth c ls hx hb hr hts hown hlocks hin hml hZ hl
  have hl : lv_has ls 2 [(0, .ref (t))] := hl
  refine lv_iconst (v := 0) hx hb dX4_forget_0 (by decide) ?_
  refine lv_istore_n (lv' := [(1, .int (0)), (0, .ref (t))]) hx hb dX4_forget_1 rfl hl (by decide) rfl (fun ls hl => ?_)
  refine lp_X4_f2 l D cs B hx hb hts hown hml t t1 t2 n d1 d2 d3 V ?_ 60 0 (by decide) _ _ _ ls _ _ hZ f0 f1 f2 (fun _ _ _ => rfl) (by rw [nI_0]; exact lv_sub hl [0, 1] rfl)
  intro V1 _ _ ls g2 g3 hZ f4 f5 f6 fr7 hl
  refine lv_iconst (v := 0) hx hb dX4_forget_21 (by decide) ?_
  refine lv_istore_n (lv' := [(1, .int (0)), (0, .ref (t))]) hx hb dX4_forget_22 rfl hl (by decide) rfl (fun ls hl => ?_)
  refine lp_X4_f23 l D cs B hx hb hts hown hml t t1 t2 n d1 d2 d3 V1 ?_ 3 0 (by decide) _ _ _ ls _ _ hZ f4 f5 f6 (fun _ _ _ => rfl) (by rw [nI_0]; exact lv_sub hl [0, 1] rfl)
  intro V8 _ _ ls g9 g10 hZ f11 f12 f13 fr14 hl
  exact hp_vret hx hb hr hlocks hZ ⟨rfl, ⟨_, f12⟩, ⟨_, f13⟩, fun x _ _ => (fr14 (x) (by omega) (by omega)).trans (fr7 (x) (by omega) (by omega))⟩ dX4_forget_41

set_option maxHeartbeats 4000000 in
set_option maxRecDepth 100000 in
theorem c_X1_forget0 (l : Launch) (D : va_G) (cs : Nat → ClassId) (B : Nat) (V : hp_V) (n : Nat) (q t : Nat) (f0 : V t = some (.inr (1, [.ref (q + 51), .ref (q + 52), .int (0), .ref (q + 53), .ref (q + 55), .ref (q + 57), .null, .null, .null, .int (0), .ref (q + 59), .ref (q + 60), .ref (q + 61)]))) : hp_M l yX1_forget cX1_forget 1 none ({ frames := 1, cells := 0, slots := 0, locals := 21 }) D cs B V n [.ref (t)] (hp_QV D cs B (fun V' n' => n' = n ∧ V' t = some (.inr (1, [.ref (q + 51), .ref (q + 52), .int (0), .ref (q + 53), .ref (q + 55), .ref (q + 57), .null, .null, .null, .int (0), .ref (q + 59), .ref (q + 60), .ref (q + 61)])) ∧ ∀ x, x ≠ t → V' x = V x)) 0 (0) := by
  refine hp_walk (R0 := RX1) (by decide) rfl ?_ (Nat.le_of_ble_eq_true rfl)
  intro p e s m below meth c ls hx hb hr hts hown hlocks hin hml hZ hl
  have hl : lv_has ls 1 [(0, .ref (t))] := hl
  refine lv_aload_n hx hb dX1_forget_0 rfl (lv_at hl 0 rfl) ?_
  refine lv_iconst (v := 0) hx hb dX1_forget_1 (by decide) ?_
  refine hp_put hx hb hts hown hZ f0 fp_X1_46 rfl rfl (Nat.le_of_ble_eq_true rfl) dX1_forget_2 (fun V1 _ _ e2 o3 hZ => ?_)
  have e2 : V1 (t) = some (.inr (1, [.ref (q + 51), .ref (q + 52), .int (0), .ref (q + 53), .ref (q + 55), .ref (q + 57), .null, .null, .null, .int (0), .ref (q + 59), .ref (q + 60), .ref (q + 61)])) := e2
  exact hp_vret hx hb hr hlocks hZ ⟨rfl, e2, fun x hx9 => o3 x hx9⟩ dX1_forget_5

set_option maxHeartbeats 4000000 in
set_option maxRecDepth 100000 in
theorem c_X1_detail0 (l : Launch) (D : va_G) (cs : Nat → ClassId) (B : Nat) (V : hp_V) (n : Nat) (q t : Nat) (k : Int32) (f0 : V t = some (.inr (1, [.ref (q + 51), .ref (q + 52), .int (0), .ref (q + 53), .ref (q + 55), .ref (q + 57), .null, .null, .null, .int (0), .ref (q + 59), .ref (q + 60), .ref (q + 61)]))) : hp_M l yX1_detail cX1_detail 3 (some .int) ({ frames := 1, cells := 0, slots := 0, locals := 21 }) D cs B V n [.ref (t), .int (k)] (hp_QI D cs B (fun r V' n' => V = V' ∧ n = n' ∧ -9 = r)) 0 (0) := by
  refine hp_walk (R0 := RX1) (by decide) rfl ?_ (Nat.le_of_ble_eq_true rfl)
  intro p e s m below meth c ls hx hb hr hts hown hlocks hin hml hZ hl
  have hl : lv_has ls 3 [(0, .ref (t)), (1, .int (k))] := hl
  refine lv_iload_n hx hb dX1_detail_0 rfl (lv_at hl 1 rfl) ?_
  refine lv_if_ne (tgt := 16) hx hb dX1_detail_1 (by decide) (fun c1 => ?_) (fun c1 => ?_)
  · refine lv_iload_n hx hb dX1_detail_16 rfl (lv_at hl 1 rfl) ?_
    refine lv_bipush (v := 10) hx hb dX1_detail_17 (by decide) ?_
    refine lv_icmp_ge (tgt := 26) hx hb dX1_detail_19 (by decide) (fun c2 => ?_) (fun c2 => ?_)
    · refine lv_iload_n hx hb dX1_detail_26 rfl (lv_at hl 1 rfl) ?_
      refine lv_bipush (v := 10) hx hb dX1_detail_27 (by decide) ?_
      refine lv_irem hx hb dX1_detail_29 (by decide) ?_
      refine lv_istore_n (lv' := [(2, .int ((k - k / 10 * 10))), (0, .ref (t)), (1, .int (k))]) hx hb dX1_detail_30 rfl hl (by decide) rfl (fun ls hl => ?_)
      refine lv_iload_n hx hb dX1_detail_31 rfl (lv_at hl 0 rfl) ?_
      refine lv_if_lt (tgt := 43) hx hb dX1_detail_32 (by decide) (fun c3 => ?_) (fun c3 => ?_)
      · refine lv_bipush (v := -9) hx hb dX1_detail_43 (by decide) ?_
        exact hp_iret hx hb hr hlocks hZ ⟨rfl, rfl, rfl⟩ dX1_detail_45
      · refine lv_iload_n hx hb dX1_detail_35 rfl (lv_at hl 0 rfl) ?_
        refine lv_aload_n hx hb dX1_detail_36 rfl (lv_at hl 1 rfl) ?_
        refine hp_get (v := .int (0)) hx hb hts hown hZ f0 fl_X1_46 rfl dX1_detail_37 ?_
        refine lv_icmp_lt (tgt := 46) hx hb dX1_detail_40 (by decide) (fun c4 => absurd c4 (c3)) (fun c4 => ?_)
        refine lv_bipush (v := -9) hx hb dX1_detail_43 (by decide) ?_
        exact hp_iret hx hb hr hlocks hZ ⟨rfl, rfl, rfl⟩ dX1_detail_45
    · refine lv_iconst (v := -1) hx hb dX1_detail_22 (by decide) ?_
      refine lv_goto (tgt := 30) hx hb dX1_detail_23 (by decide) ?_
      refine lv_istore_n (lv' := [(2, .int (-1)), (0, .ref (t)), (1, .int (k))]) hx hb dX1_detail_30 rfl hl (by decide) rfl (fun ls hl => ?_)
      refine lv_iload_n hx hb dX1_detail_31 rfl (lv_at hl 0 rfl) ?_
      refine lv_if_lt (tgt := 43) hx hb dX1_detail_32 (by decide) (fun c5 => ?_) (fun c5 => absurd (by decide) c5)
      refine lv_bipush (v := -9) hx hb dX1_detail_43 (by decide) ?_
      exact hp_iret hx hb hr hlocks hZ ⟨rfl, rfl, rfl⟩ dX1_detail_45
  · refine lv_aload_n hx hb dX1_detail_4 rfl (lv_at hl 0 rfl) ?_
    refine hp_get (v := .int (0)) hx hb hts hown hZ f0 fl_X1_46 rfl dX1_detail_5 ?_
    refine lv_if_le (tgt := 16) hx hb dX1_detail_8 (by decide) (fun c6 => ?_) (fun c6 => absurd (by decide) c6)
    refine lv_iload_n hx hb dX1_detail_16 rfl (lv_at hl 1 rfl) ?_
    refine lv_bipush (v := 10) hx hb dX1_detail_17 (by decide) ?_
    refine lv_icmp_ge (tgt := 26) hx hb dX1_detail_19 (by decide) (fun c7 => ?_) (fun c7 => ?_)
    · refine lv_iload_n hx hb dX1_detail_26 rfl (lv_at hl 1 rfl) ?_
      refine lv_bipush (v := 10) hx hb dX1_detail_27 (by decide) ?_
      refine lv_irem hx hb dX1_detail_29 (by decide) ?_
      refine lv_istore_n (lv' := [(2, .int ((k - k / 10 * 10))), (0, .ref (t)), (1, .int (k))]) hx hb dX1_detail_30 rfl hl (by decide) rfl (fun ls hl => ?_)
      refine lv_iload_n hx hb dX1_detail_31 rfl (lv_at hl 0 rfl) ?_
      refine lv_if_lt (tgt := 43) hx hb dX1_detail_32 (by decide) (fun c8 => ?_) (fun c8 => ?_)
      · refine lv_bipush (v := -9) hx hb dX1_detail_43 (by decide) ?_
        exact hp_iret hx hb hr hlocks hZ ⟨rfl, rfl, rfl⟩ dX1_detail_45
      · refine lv_iload_n hx hb dX1_detail_35 rfl (lv_at hl 0 rfl) ?_
        refine lv_aload_n hx hb dX1_detail_36 rfl (lv_at hl 1 rfl) ?_
        refine hp_get (v := .int (0)) hx hb hts hown hZ f0 fl_X1_46 rfl dX1_detail_37 ?_
        refine lv_icmp_lt (tgt := 46) hx hb dX1_detail_40 (by decide) (fun c9 => absurd c9 (c8)) (fun c9 => ?_)
        refine lv_bipush (v := -9) hx hb dX1_detail_43 (by decide) ?_
        exact hp_iret hx hb hr hlocks hZ ⟨rfl, rfl, rfl⟩ dX1_detail_45
    · refine lv_iconst (v := -1) hx hb dX1_detail_22 (by decide) ?_
      refine lv_goto (tgt := 30) hx hb dX1_detail_23 (by decide) ?_
      refine lv_istore_n (lv' := [(2, .int (-1)), (0, .ref (t)), (1, .int (k))]) hx hb dX1_detail_30 rfl hl (by decide) rfl (fun ls hl => ?_)
      refine lv_iload_n hx hb dX1_detail_31 rfl (lv_at hl 0 rfl) ?_
      refine lv_if_lt (tgt := 43) hx hb dX1_detail_32 (by decide) (fun c10 => ?_) (fun c10 => absurd (by decide) c10)
      refine lv_bipush (v := -9) hx hb dX1_detail_43 (by decide) ?_
      exact hp_iret hx hb hr hlocks hZ ⟨rfl, rfl, rfl⟩ dX1_detail_45

/-- what forgetAll() reaches -/
def fx_R (cs : Nat → ClassId) (q : Nat) (V : hp_V) : Prop := V (q + 46) = some (.inr (8, [.int (0), .ref (q + 47), .ref (q + 48), .ref (q + 49)])) ∧ V (q + 50) = some (.inr (1, [.ref (q + 51), .ref (q + 52), .int (0), .ref (q + 53), .ref (q + 55), .ref (q + 57), .null, .null, .null, .int (0), .ref (q + 59), .ref (q + 60), .ref (q + 61)])) ∧ (∃ g : Nat → Option Nat, V (q + 62) = some (.inl (cs 5, 8, .inr (.inr (.inr (.inr (g)))))) ∧ g 0 = some (q + 63) ∧ g 1 = some (q + 66) ∧ g 2 = some (q + 69) ∧ g 3 = some (q + 72) ∧ g 4 = some (q + 75) ∧ g 5 = some (q + 78) ∧ g 6 = some (q + 81) ∧ g 7 = some (q + 84)) ∧ fx_L cs V (q + 63) ∧ fx_L cs V (q + 66) ∧ fx_L cs V (q + 69) ∧ fx_L cs V (q + 72) ∧ fx_L cs V (q + 75) ∧ fx_L cs V (q + 78) ∧ fx_L cs V (q + 81) ∧ fx_L cs V (q + 84)

set_option maxHeartbeats 4000000 in
set_option maxRecDepth 100000 in
theorem c_X11_forgetAll (l : Launch) (D : va_G) (cs : Nat → ClassId) (B : Nat) (V : hp_V) (n : Nat) (a q t1 t2 : Nat) (haq : a < q) (h_a2 : V a = some (.inr (11, [.ref (q), .ref (q + 2), .ref (q + 5), .ref (q + 46), .ref (q + 50), .ref (q + 62), .ref (q + 87), .int (0), .ref (t1), .ref (t2)]))) (hF : fx_R cs q V) : hp_M l yX11_forgetAll cX11_forgetAll 2 none ({ frames := 2, cells := 0, slots := 0, locals := 42 }) D cs B V n [.ref (a)] (hp_QV D cs B (fun V' n' => n' = n ∧ V' a = some (.inr (11, [.ref (q), .ref (q + 2), .ref (q + 5), .ref (q + 46), .ref (q + 50), .ref (q + 62), .ref (q + 87), .int (0), .ref (t1), .ref (t2)])) ∧ ∀ x, q + 88 ≤ x → V' x = V x)) 0 (0) := by
  refine hp_walk (R0 := RX11) (by decide) rfl ?_ (Nat.le_of_ble_eq_true rfl)
  intro p e s m below meth c ls hx hb hr hts hown hlocks hin hml hZ hl
  have hl : lv_has ls 2 [(0, .ref (a))] := hl
  obtain ⟨h_46, h_50, ⟨gl, h_62, gl0, gl1, gl2, gl3, gl4, gl5, gl6, gl7⟩, ⟨ho0, ⟨gm0, hm0⟩, ⟨gt0, ht0⟩⟩, ⟨ho1, ⟨gm1, hm1⟩, ⟨gt1, ht1⟩⟩, ⟨ho2, ⟨gm2, hm2⟩, ⟨gt2, ht2⟩⟩, ⟨ho3, ⟨gm3, hm3⟩, ⟨gt3, ht3⟩⟩, ⟨ho4, ⟨gm4, hm4⟩, ⟨gt4, ht4⟩⟩, ⟨ho5, ⟨gm5, hm5⟩, ⟨gt5, ht5⟩⟩, ⟨ho6, ⟨gm6, hm6⟩, ⟨gt6, ht6⟩⟩, ⟨ho7, ⟨gm7, hm7⟩, ⟨gt7, ht7⟩⟩⟩ := hF
  refine lv_iconst (v := 0) hx hb dX11_forgetAll_0 (by decide) ?_
  refine lv_istore_n (lv' := [(1, .int (0)), (0, .ref (a))]) hx hb dX11_forgetAll_1 rfl hl (by decide) rfl (fun ls hl => ?_)
  refine lv_iload_n hx hb dX11_forgetAll_2 rfl (lv_at hl 0 rfl) ?_
  refine lv_bipush (v := 8) hx hb dX11_forgetAll_3 (by decide) ?_
  refine lv_icmp_ge (tgt := 23) hx hb dX11_forgetAll_5 (by decide) (fun c1 => absurd c1 (by decide)) (fun c1 => ?_)
  refine lv_aload_n hx hb dX11_forgetAll_8 rfl (lv_at hl 1 rfl) ?_
  refine hp_get (v := .ref (q + 62)) hx hb hts hown hZ h_a2 fl_X11_48 rfl dX11_forgetAll_9 ?_
  refine lv_iload_n hx hb dX11_forgetAll_12 rfl (lv_at hl 0 rfl) ?_
  refine hp_aald (v := .ref (q + 63)) hx hb hZ 5 h_62 rfl (by unfold vp_in; decide) (congrArg va_rf gl0) dX11_forgetAll_13 ?_
  refine hp_callv (hp_runV (As := []) (rest := []) hx hb hml hown hts (c_X4_forget l D cs B V (n) (q + 63) (q + 64) (q + 65) (hq_ne q 63 64 (by decide)) (hq_ne q 63 65 (by decide)) (hq_ne q 64 65 (by decide)) _ _ ho0 hm0 ht0) hZ ho0 cv_X11_285 rfl rfl ⟨Nat.le_of_ble_eq_true rfl, Nat.le_of_ble_eq_true rfl⟩ rfl hl.1 rfl (Nat.le_of_ble_eq_true rfl) dX11_forgetAll_14 ⟨(Nat.le_of_ble_eq_true rfl), (Nat.le_of_ble_eq_true rfl)⟩) hZ (fun V2 n3 _ _ hw4 hZ => ?_)
  obtain ⟨hn6, ⟨g9, f8⟩, ⟨g11, f10⟩, fr7⟩ := hw4
  have hn6 : n = n3 := hn6.symm
  subst hn6
  refine lv_iinc (v := 1) (lv' := [(1, .int (1)), (0, .ref (a))]) hx hb dX11_forgetAll_17 hl (k := 0) rfl (by decide) (by decide) rfl (fun ls hl => ?_)
  refine lv_goto (tgt := 2) hx hb dX11_forgetAll_20 (by decide) ?_
  refine lv_iload_n hx hb dX11_forgetAll_2 rfl (lv_at hl 0 rfl) ?_
  refine lv_bipush (v := 8) hx hb dX11_forgetAll_3 (by decide) ?_
  refine lv_icmp_ge (tgt := 23) hx hb dX11_forgetAll_5 (by decide) (fun c12 => absurd c12 (by decide)) (fun c12 => ?_)
  refine lv_aload_n hx hb dX11_forgetAll_8 rfl (lv_at hl 1 rfl) ?_
  have f13 := (fr7 (a) (hq_lt haq 64) (hq_lt haq 65)).trans (h_a2)
  have f13 : V2 (a) = some (.inr (11, [.ref (q), .ref (q + 2), .ref (q + 5), .ref (q + 46), .ref (q + 50), .ref (q + 62), .ref (q + 87), .int (0), .ref (t1), .ref (t2)])) := f13
  refine hp_get (v := .ref (q + 62)) hx hb hts hown hZ f13 fl_X11_48 rfl dX11_forgetAll_9 ?_
  refine lv_iload_n hx hb dX11_forgetAll_12 rfl (lv_at hl 0 rfl) ?_
  have f14 := (fr7 (q + 62) (hq_ne q 62 64 (by decide)) (hq_ne q 62 65 (by decide))).trans (h_62)
  have f14 : V2 (q + 62) = some (.inl (cs 5, 8, .inr (.inr (.inr (.inr (gl)))))) := f14
  refine hp_aald (v := .ref (q + 66)) hx hb hZ 5 f14 rfl (by unfold vp_in; decide) (congrArg va_rf gl1) dX11_forgetAll_13 ?_
  have f15 := (fr7 (q + 66) (hq_ne q 66 64 (by decide)) (hq_ne q 66 65 (by decide))).trans (ho1)
  have f15 : V2 (q + 66) = some (.inr (4, [.ref (q + 67), .ref (q + 68)])) := f15
  have f16 := (fr7 (q + 67) (hq_ne q 67 64 (by decide)) (hq_ne q 67 65 (by decide))).trans (hm1)
  have f16 : V2 (q + 67) = some (.inl (cs 1, 60, .inl (gm1))) := f16
  have f17 := (fr7 (q + 68) (hq_ne q 68 64 (by decide)) (hq_ne q 68 65 (by decide))).trans (ht1)
  have f17 : V2 (q + 68) = some (.inl (cs 1, 3, .inl (gt1))) := f17
  refine hp_callv (hp_runV (As := []) (rest := []) hx hb hml hown hts (c_X4_forget l D cs B V2 (n) (q + 66) (q + 67) (q + 68) (hq_ne q 66 67 (by decide)) (hq_ne q 66 68 (by decide)) (hq_ne q 67 68 (by decide)) _ _ f15 f16 f17) hZ f15 cv_X11_285 rfl rfl ⟨Nat.le_of_ble_eq_true rfl, Nat.le_of_ble_eq_true rfl⟩ rfl hl.1 rfl (Nat.le_of_ble_eq_true rfl) dX11_forgetAll_14 ⟨(Nat.le_of_ble_eq_true rfl), (Nat.le_of_ble_eq_true rfl)⟩) hZ (fun V18 n19 _ _ hw20 hZ => ?_)
  obtain ⟨hn22, ⟨g25, f24⟩, ⟨g27, f26⟩, fr23⟩ := hw20
  have hn22 : n = n19 := hn22.symm
  subst hn22
  refine lv_iinc (v := 2) (lv' := [(1, .int (2)), (0, .ref (a))]) hx hb dX11_forgetAll_17 hl (k := 0) rfl (by decide) (by decide) rfl (fun ls hl => ?_)
  refine lv_goto (tgt := 2) hx hb dX11_forgetAll_20 (by decide) ?_
  refine lv_iload_n hx hb dX11_forgetAll_2 rfl (lv_at hl 0 rfl) ?_
  refine lv_bipush (v := 8) hx hb dX11_forgetAll_3 (by decide) ?_
  refine lv_icmp_ge (tgt := 23) hx hb dX11_forgetAll_5 (by decide) (fun c28 => absurd c28 (by decide)) (fun c28 => ?_)
  refine lv_aload_n hx hb dX11_forgetAll_8 rfl (lv_at hl 1 rfl) ?_
  have f29 := (fr23 (a) (hq_lt haq 67) (hq_lt haq 68)).trans (f13)
  have f29 : V18 (a) = some (.inr (11, [.ref (q), .ref (q + 2), .ref (q + 5), .ref (q + 46), .ref (q + 50), .ref (q + 62), .ref (q + 87), .int (0), .ref (t1), .ref (t2)])) := f29
  refine hp_get (v := .ref (q + 62)) hx hb hts hown hZ f29 fl_X11_48 rfl dX11_forgetAll_9 ?_
  refine lv_iload_n hx hb dX11_forgetAll_12 rfl (lv_at hl 0 rfl) ?_
  have f30 := (fr23 (q + 62) (hq_ne q 62 67 (by decide)) (hq_ne q 62 68 (by decide))).trans (f14)
  have f30 : V18 (q + 62) = some (.inl (cs 5, 8, .inr (.inr (.inr (.inr (gl)))))) := f30
  refine hp_aald (v := .ref (q + 69)) hx hb hZ 5 f30 rfl (by unfold vp_in; decide) (congrArg va_rf gl2) dX11_forgetAll_13 ?_
  have f31 := (fr23 (q + 69) (hq_ne q 69 67 (by decide)) (hq_ne q 69 68 (by decide))).trans ((fr7 (q + 69) (hq_ne q 69 64 (by decide)) (hq_ne q 69 65 (by decide))).trans (ho2))
  have f31 : V18 (q + 69) = some (.inr (4, [.ref (q + 70), .ref (q + 71)])) := f31
  have f32 := (fr23 (q + 70) (hq_ne q 70 67 (by decide)) (hq_ne q 70 68 (by decide))).trans ((fr7 (q + 70) (hq_ne q 70 64 (by decide)) (hq_ne q 70 65 (by decide))).trans (hm2))
  have f32 : V18 (q + 70) = some (.inl (cs 1, 60, .inl (gm2))) := f32
  have f33 := (fr23 (q + 71) (hq_ne q 71 67 (by decide)) (hq_ne q 71 68 (by decide))).trans ((fr7 (q + 71) (hq_ne q 71 64 (by decide)) (hq_ne q 71 65 (by decide))).trans (ht2))
  have f33 : V18 (q + 71) = some (.inl (cs 1, 3, .inl (gt2))) := f33
  refine hp_callv (hp_runV (As := []) (rest := []) hx hb hml hown hts (c_X4_forget l D cs B V18 (n) (q + 69) (q + 70) (q + 71) (hq_ne q 69 70 (by decide)) (hq_ne q 69 71 (by decide)) (hq_ne q 70 71 (by decide)) _ _ f31 f32 f33) hZ f31 cv_X11_285 rfl rfl ⟨Nat.le_of_ble_eq_true rfl, Nat.le_of_ble_eq_true rfl⟩ rfl hl.1 rfl (Nat.le_of_ble_eq_true rfl) dX11_forgetAll_14 ⟨(Nat.le_of_ble_eq_true rfl), (Nat.le_of_ble_eq_true rfl)⟩) hZ (fun V34 n35 _ _ hw36 hZ => ?_)
  obtain ⟨hn38, ⟨g41, f40⟩, ⟨g43, f42⟩, fr39⟩ := hw36
  have hn38 : n = n35 := hn38.symm
  subst hn38
  refine lv_iinc (v := 3) (lv' := [(1, .int (3)), (0, .ref (a))]) hx hb dX11_forgetAll_17 hl (k := 0) rfl (by decide) (by decide) rfl (fun ls hl => ?_)
  refine lv_goto (tgt := 2) hx hb dX11_forgetAll_20 (by decide) ?_
  refine lv_iload_n hx hb dX11_forgetAll_2 rfl (lv_at hl 0 rfl) ?_
  refine lv_bipush (v := 8) hx hb dX11_forgetAll_3 (by decide) ?_
  refine lv_icmp_ge (tgt := 23) hx hb dX11_forgetAll_5 (by decide) (fun c44 => absurd c44 (by decide)) (fun c44 => ?_)
  refine lv_aload_n hx hb dX11_forgetAll_8 rfl (lv_at hl 1 rfl) ?_
  have f45 := (fr39 (a) (hq_lt haq 70) (hq_lt haq 71)).trans (f29)
  have f45 : V34 (a) = some (.inr (11, [.ref (q), .ref (q + 2), .ref (q + 5), .ref (q + 46), .ref (q + 50), .ref (q + 62), .ref (q + 87), .int (0), .ref (t1), .ref (t2)])) := f45
  refine hp_get (v := .ref (q + 62)) hx hb hts hown hZ f45 fl_X11_48 rfl dX11_forgetAll_9 ?_
  refine lv_iload_n hx hb dX11_forgetAll_12 rfl (lv_at hl 0 rfl) ?_
  have f46 := (fr39 (q + 62) (hq_ne q 62 70 (by decide)) (hq_ne q 62 71 (by decide))).trans (f30)
  have f46 : V34 (q + 62) = some (.inl (cs 5, 8, .inr (.inr (.inr (.inr (gl)))))) := f46
  refine hp_aald (v := .ref (q + 72)) hx hb hZ 5 f46 rfl (by unfold vp_in; decide) (congrArg va_rf gl3) dX11_forgetAll_13 ?_
  have f47 := (fr39 (q + 72) (hq_ne q 72 70 (by decide)) (hq_ne q 72 71 (by decide))).trans ((fr23 (q + 72) (hq_ne q 72 67 (by decide)) (hq_ne q 72 68 (by decide))).trans ((fr7 (q + 72) (hq_ne q 72 64 (by decide)) (hq_ne q 72 65 (by decide))).trans (ho3)))
  have f47 : V34 (q + 72) = some (.inr (4, [.ref (q + 73), .ref (q + 74)])) := f47
  have f48 := (fr39 (q + 73) (hq_ne q 73 70 (by decide)) (hq_ne q 73 71 (by decide))).trans ((fr23 (q + 73) (hq_ne q 73 67 (by decide)) (hq_ne q 73 68 (by decide))).trans ((fr7 (q + 73) (hq_ne q 73 64 (by decide)) (hq_ne q 73 65 (by decide))).trans (hm3)))
  have f48 : V34 (q + 73) = some (.inl (cs 1, 60, .inl (gm3))) := f48
  have f49 := (fr39 (q + 74) (hq_ne q 74 70 (by decide)) (hq_ne q 74 71 (by decide))).trans ((fr23 (q + 74) (hq_ne q 74 67 (by decide)) (hq_ne q 74 68 (by decide))).trans ((fr7 (q + 74) (hq_ne q 74 64 (by decide)) (hq_ne q 74 65 (by decide))).trans (ht3)))
  have f49 : V34 (q + 74) = some (.inl (cs 1, 3, .inl (gt3))) := f49
  refine hp_callv (hp_runV (As := []) (rest := []) hx hb hml hown hts (c_X4_forget l D cs B V34 (n) (q + 72) (q + 73) (q + 74) (hq_ne q 72 73 (by decide)) (hq_ne q 72 74 (by decide)) (hq_ne q 73 74 (by decide)) _ _ f47 f48 f49) hZ f47 cv_X11_285 rfl rfl ⟨Nat.le_of_ble_eq_true rfl, Nat.le_of_ble_eq_true rfl⟩ rfl hl.1 rfl (Nat.le_of_ble_eq_true rfl) dX11_forgetAll_14 ⟨(Nat.le_of_ble_eq_true rfl), (Nat.le_of_ble_eq_true rfl)⟩) hZ (fun V50 n51 _ _ hw52 hZ => ?_)
  obtain ⟨hn54, ⟨g57, f56⟩, ⟨g59, f58⟩, fr55⟩ := hw52
  have hn54 : n = n51 := hn54.symm
  subst hn54
  refine lv_iinc (v := 4) (lv' := [(1, .int (4)), (0, .ref (a))]) hx hb dX11_forgetAll_17 hl (k := 0) rfl (by decide) (by decide) rfl (fun ls hl => ?_)
  refine lv_goto (tgt := 2) hx hb dX11_forgetAll_20 (by decide) ?_
  refine lv_iload_n hx hb dX11_forgetAll_2 rfl (lv_at hl 0 rfl) ?_
  refine lv_bipush (v := 8) hx hb dX11_forgetAll_3 (by decide) ?_
  refine lv_icmp_ge (tgt := 23) hx hb dX11_forgetAll_5 (by decide) (fun c60 => absurd c60 (by decide)) (fun c60 => ?_)
  refine lv_aload_n hx hb dX11_forgetAll_8 rfl (lv_at hl 1 rfl) ?_
  have f61 := (fr55 (a) (hq_lt haq 73) (hq_lt haq 74)).trans (f45)
  have f61 : V50 (a) = some (.inr (11, [.ref (q), .ref (q + 2), .ref (q + 5), .ref (q + 46), .ref (q + 50), .ref (q + 62), .ref (q + 87), .int (0), .ref (t1), .ref (t2)])) := f61
  refine hp_get (v := .ref (q + 62)) hx hb hts hown hZ f61 fl_X11_48 rfl dX11_forgetAll_9 ?_
  refine lv_iload_n hx hb dX11_forgetAll_12 rfl (lv_at hl 0 rfl) ?_
  have f62 := (fr55 (q + 62) (hq_ne q 62 73 (by decide)) (hq_ne q 62 74 (by decide))).trans (f46)
  have f62 : V50 (q + 62) = some (.inl (cs 5, 8, .inr (.inr (.inr (.inr (gl)))))) := f62
  refine hp_aald (v := .ref (q + 75)) hx hb hZ 5 f62 rfl (by unfold vp_in; decide) (congrArg va_rf gl4) dX11_forgetAll_13 ?_
  have f63 := (fr55 (q + 75) (hq_ne q 75 73 (by decide)) (hq_ne q 75 74 (by decide))).trans ((fr39 (q + 75) (hq_ne q 75 70 (by decide)) (hq_ne q 75 71 (by decide))).trans ((fr23 (q + 75) (hq_ne q 75 67 (by decide)) (hq_ne q 75 68 (by decide))).trans ((fr7 (q + 75) (hq_ne q 75 64 (by decide)) (hq_ne q 75 65 (by decide))).trans (ho4))))
  have f63 : V50 (q + 75) = some (.inr (4, [.ref (q + 76), .ref (q + 77)])) := f63
  have f64 := (fr55 (q + 76) (hq_ne q 76 73 (by decide)) (hq_ne q 76 74 (by decide))).trans ((fr39 (q + 76) (hq_ne q 76 70 (by decide)) (hq_ne q 76 71 (by decide))).trans ((fr23 (q + 76) (hq_ne q 76 67 (by decide)) (hq_ne q 76 68 (by decide))).trans ((fr7 (q + 76) (hq_ne q 76 64 (by decide)) (hq_ne q 76 65 (by decide))).trans (hm4))))
  have f64 : V50 (q + 76) = some (.inl (cs 1, 60, .inl (gm4))) := f64
  have f65 := (fr55 (q + 77) (hq_ne q 77 73 (by decide)) (hq_ne q 77 74 (by decide))).trans ((fr39 (q + 77) (hq_ne q 77 70 (by decide)) (hq_ne q 77 71 (by decide))).trans ((fr23 (q + 77) (hq_ne q 77 67 (by decide)) (hq_ne q 77 68 (by decide))).trans ((fr7 (q + 77) (hq_ne q 77 64 (by decide)) (hq_ne q 77 65 (by decide))).trans (ht4))))
  have f65 : V50 (q + 77) = some (.inl (cs 1, 3, .inl (gt4))) := f65
  refine hp_callv (hp_runV (As := []) (rest := []) hx hb hml hown hts (c_X4_forget l D cs B V50 (n) (q + 75) (q + 76) (q + 77) (hq_ne q 75 76 (by decide)) (hq_ne q 75 77 (by decide)) (hq_ne q 76 77 (by decide)) _ _ f63 f64 f65) hZ f63 cv_X11_285 rfl rfl ⟨Nat.le_of_ble_eq_true rfl, Nat.le_of_ble_eq_true rfl⟩ rfl hl.1 rfl (Nat.le_of_ble_eq_true rfl) dX11_forgetAll_14 ⟨(Nat.le_of_ble_eq_true rfl), (Nat.le_of_ble_eq_true rfl)⟩) hZ (fun V66 n67 _ _ hw68 hZ => ?_)
  obtain ⟨hn70, ⟨g73, f72⟩, ⟨g75, f74⟩, fr71⟩ := hw68
  have hn70 : n = n67 := hn70.symm
  subst hn70
  refine lv_iinc (v := 5) (lv' := [(1, .int (5)), (0, .ref (a))]) hx hb dX11_forgetAll_17 hl (k := 0) rfl (by decide) (by decide) rfl (fun ls hl => ?_)
  refine lv_goto (tgt := 2) hx hb dX11_forgetAll_20 (by decide) ?_
  refine lv_iload_n hx hb dX11_forgetAll_2 rfl (lv_at hl 0 rfl) ?_
  refine lv_bipush (v := 8) hx hb dX11_forgetAll_3 (by decide) ?_
  refine lv_icmp_ge (tgt := 23) hx hb dX11_forgetAll_5 (by decide) (fun c76 => absurd c76 (by decide)) (fun c76 => ?_)
  refine lv_aload_n hx hb dX11_forgetAll_8 rfl (lv_at hl 1 rfl) ?_
  have f77 := (fr71 (a) (hq_lt haq 76) (hq_lt haq 77)).trans (f61)
  have f77 : V66 (a) = some (.inr (11, [.ref (q), .ref (q + 2), .ref (q + 5), .ref (q + 46), .ref (q + 50), .ref (q + 62), .ref (q + 87), .int (0), .ref (t1), .ref (t2)])) := f77
  refine hp_get (v := .ref (q + 62)) hx hb hts hown hZ f77 fl_X11_48 rfl dX11_forgetAll_9 ?_
  refine lv_iload_n hx hb dX11_forgetAll_12 rfl (lv_at hl 0 rfl) ?_
  have f78 := (fr71 (q + 62) (hq_ne q 62 76 (by decide)) (hq_ne q 62 77 (by decide))).trans (f62)
  have f78 : V66 (q + 62) = some (.inl (cs 5, 8, .inr (.inr (.inr (.inr (gl)))))) := f78
  refine hp_aald (v := .ref (q + 78)) hx hb hZ 5 f78 rfl (by unfold vp_in; decide) (congrArg va_rf gl5) dX11_forgetAll_13 ?_
  have f79 := (fr71 (q + 78) (hq_ne q 78 76 (by decide)) (hq_ne q 78 77 (by decide))).trans ((fr55 (q + 78) (hq_ne q 78 73 (by decide)) (hq_ne q 78 74 (by decide))).trans ((fr39 (q + 78) (hq_ne q 78 70 (by decide)) (hq_ne q 78 71 (by decide))).trans ((fr23 (q + 78) (hq_ne q 78 67 (by decide)) (hq_ne q 78 68 (by decide))).trans ((fr7 (q + 78) (hq_ne q 78 64 (by decide)) (hq_ne q 78 65 (by decide))).trans (ho5)))))
  have f79 : V66 (q + 78) = some (.inr (4, [.ref (q + 79), .ref (q + 80)])) := f79
  have f80 := (fr71 (q + 79) (hq_ne q 79 76 (by decide)) (hq_ne q 79 77 (by decide))).trans ((fr55 (q + 79) (hq_ne q 79 73 (by decide)) (hq_ne q 79 74 (by decide))).trans ((fr39 (q + 79) (hq_ne q 79 70 (by decide)) (hq_ne q 79 71 (by decide))).trans ((fr23 (q + 79) (hq_ne q 79 67 (by decide)) (hq_ne q 79 68 (by decide))).trans ((fr7 (q + 79) (hq_ne q 79 64 (by decide)) (hq_ne q 79 65 (by decide))).trans (hm5)))))
  have f80 : V66 (q + 79) = some (.inl (cs 1, 60, .inl (gm5))) := f80
  have f81 := (fr71 (q + 80) (hq_ne q 80 76 (by decide)) (hq_ne q 80 77 (by decide))).trans ((fr55 (q + 80) (hq_ne q 80 73 (by decide)) (hq_ne q 80 74 (by decide))).trans ((fr39 (q + 80) (hq_ne q 80 70 (by decide)) (hq_ne q 80 71 (by decide))).trans ((fr23 (q + 80) (hq_ne q 80 67 (by decide)) (hq_ne q 80 68 (by decide))).trans ((fr7 (q + 80) (hq_ne q 80 64 (by decide)) (hq_ne q 80 65 (by decide))).trans (ht5)))))
  have f81 : V66 (q + 80) = some (.inl (cs 1, 3, .inl (gt5))) := f81
  refine hp_callv (hp_runV (As := []) (rest := []) hx hb hml hown hts (c_X4_forget l D cs B V66 (n) (q + 78) (q + 79) (q + 80) (hq_ne q 78 79 (by decide)) (hq_ne q 78 80 (by decide)) (hq_ne q 79 80 (by decide)) _ _ f79 f80 f81) hZ f79 cv_X11_285 rfl rfl ⟨Nat.le_of_ble_eq_true rfl, Nat.le_of_ble_eq_true rfl⟩ rfl hl.1 rfl (Nat.le_of_ble_eq_true rfl) dX11_forgetAll_14 ⟨(Nat.le_of_ble_eq_true rfl), (Nat.le_of_ble_eq_true rfl)⟩) hZ (fun V82 n83 _ _ hw84 hZ => ?_)
  obtain ⟨hn86, ⟨g89, f88⟩, ⟨g91, f90⟩, fr87⟩ := hw84
  have hn86 : n = n83 := hn86.symm
  subst hn86
  refine lv_iinc (v := 6) (lv' := [(1, .int (6)), (0, .ref (a))]) hx hb dX11_forgetAll_17 hl (k := 0) rfl (by decide) (by decide) rfl (fun ls hl => ?_)
  refine lv_goto (tgt := 2) hx hb dX11_forgetAll_20 (by decide) ?_
  refine lv_iload_n hx hb dX11_forgetAll_2 rfl (lv_at hl 0 rfl) ?_
  refine lv_bipush (v := 8) hx hb dX11_forgetAll_3 (by decide) ?_
  refine lv_icmp_ge (tgt := 23) hx hb dX11_forgetAll_5 (by decide) (fun c92 => absurd c92 (by decide)) (fun c92 => ?_)
  refine lv_aload_n hx hb dX11_forgetAll_8 rfl (lv_at hl 1 rfl) ?_
  have f93 := (fr87 (a) (hq_lt haq 79) (hq_lt haq 80)).trans (f77)
  have f93 : V82 (a) = some (.inr (11, [.ref (q), .ref (q + 2), .ref (q + 5), .ref (q + 46), .ref (q + 50), .ref (q + 62), .ref (q + 87), .int (0), .ref (t1), .ref (t2)])) := f93
  refine hp_get (v := .ref (q + 62)) hx hb hts hown hZ f93 fl_X11_48 rfl dX11_forgetAll_9 ?_
  refine lv_iload_n hx hb dX11_forgetAll_12 rfl (lv_at hl 0 rfl) ?_
  have f94 := (fr87 (q + 62) (hq_ne q 62 79 (by decide)) (hq_ne q 62 80 (by decide))).trans (f78)
  have f94 : V82 (q + 62) = some (.inl (cs 5, 8, .inr (.inr (.inr (.inr (gl)))))) := f94
  refine hp_aald (v := .ref (q + 81)) hx hb hZ 5 f94 rfl (by unfold vp_in; decide) (congrArg va_rf gl6) dX11_forgetAll_13 ?_
  have f95 := (fr87 (q + 81) (hq_ne q 81 79 (by decide)) (hq_ne q 81 80 (by decide))).trans ((fr71 (q + 81) (hq_ne q 81 76 (by decide)) (hq_ne q 81 77 (by decide))).trans ((fr55 (q + 81) (hq_ne q 81 73 (by decide)) (hq_ne q 81 74 (by decide))).trans ((fr39 (q + 81) (hq_ne q 81 70 (by decide)) (hq_ne q 81 71 (by decide))).trans ((fr23 (q + 81) (hq_ne q 81 67 (by decide)) (hq_ne q 81 68 (by decide))).trans ((fr7 (q + 81) (hq_ne q 81 64 (by decide)) (hq_ne q 81 65 (by decide))).trans (ho6))))))
  have f95 : V82 (q + 81) = some (.inr (4, [.ref (q + 82), .ref (q + 83)])) := f95
  have f96 := (fr87 (q + 82) (hq_ne q 82 79 (by decide)) (hq_ne q 82 80 (by decide))).trans ((fr71 (q + 82) (hq_ne q 82 76 (by decide)) (hq_ne q 82 77 (by decide))).trans ((fr55 (q + 82) (hq_ne q 82 73 (by decide)) (hq_ne q 82 74 (by decide))).trans ((fr39 (q + 82) (hq_ne q 82 70 (by decide)) (hq_ne q 82 71 (by decide))).trans ((fr23 (q + 82) (hq_ne q 82 67 (by decide)) (hq_ne q 82 68 (by decide))).trans ((fr7 (q + 82) (hq_ne q 82 64 (by decide)) (hq_ne q 82 65 (by decide))).trans (hm6))))))
  have f96 : V82 (q + 82) = some (.inl (cs 1, 60, .inl (gm6))) := f96
  have f97 := (fr87 (q + 83) (hq_ne q 83 79 (by decide)) (hq_ne q 83 80 (by decide))).trans ((fr71 (q + 83) (hq_ne q 83 76 (by decide)) (hq_ne q 83 77 (by decide))).trans ((fr55 (q + 83) (hq_ne q 83 73 (by decide)) (hq_ne q 83 74 (by decide))).trans ((fr39 (q + 83) (hq_ne q 83 70 (by decide)) (hq_ne q 83 71 (by decide))).trans ((fr23 (q + 83) (hq_ne q 83 67 (by decide)) (hq_ne q 83 68 (by decide))).trans ((fr7 (q + 83) (hq_ne q 83 64 (by decide)) (hq_ne q 83 65 (by decide))).trans (ht6))))))
  have f97 : V82 (q + 83) = some (.inl (cs 1, 3, .inl (gt6))) := f97
  refine hp_callv (hp_runV (As := []) (rest := []) hx hb hml hown hts (c_X4_forget l D cs B V82 (n) (q + 81) (q + 82) (q + 83) (hq_ne q 81 82 (by decide)) (hq_ne q 81 83 (by decide)) (hq_ne q 82 83 (by decide)) _ _ f95 f96 f97) hZ f95 cv_X11_285 rfl rfl ⟨Nat.le_of_ble_eq_true rfl, Nat.le_of_ble_eq_true rfl⟩ rfl hl.1 rfl (Nat.le_of_ble_eq_true rfl) dX11_forgetAll_14 ⟨(Nat.le_of_ble_eq_true rfl), (Nat.le_of_ble_eq_true rfl)⟩) hZ (fun V98 n99 _ _ hw100 hZ => ?_)
  obtain ⟨hn102, ⟨g105, f104⟩, ⟨g107, f106⟩, fr103⟩ := hw100
  have hn102 : n = n99 := hn102.symm
  subst hn102
  refine lv_iinc (v := 7) (lv' := [(1, .int (7)), (0, .ref (a))]) hx hb dX11_forgetAll_17 hl (k := 0) rfl (by decide) (by decide) rfl (fun ls hl => ?_)
  refine lv_goto (tgt := 2) hx hb dX11_forgetAll_20 (by decide) ?_
  refine lv_iload_n hx hb dX11_forgetAll_2 rfl (lv_at hl 0 rfl) ?_
  refine lv_bipush (v := 8) hx hb dX11_forgetAll_3 (by decide) ?_
  refine lv_icmp_ge (tgt := 23) hx hb dX11_forgetAll_5 (by decide) (fun c108 => absurd c108 (by decide)) (fun c108 => ?_)
  refine lv_aload_n hx hb dX11_forgetAll_8 rfl (lv_at hl 1 rfl) ?_
  have f109 := (fr103 (a) (hq_lt haq 82) (hq_lt haq 83)).trans (f93)
  have f109 : V98 (a) = some (.inr (11, [.ref (q), .ref (q + 2), .ref (q + 5), .ref (q + 46), .ref (q + 50), .ref (q + 62), .ref (q + 87), .int (0), .ref (t1), .ref (t2)])) := f109
  refine hp_get (v := .ref (q + 62)) hx hb hts hown hZ f109 fl_X11_48 rfl dX11_forgetAll_9 ?_
  refine lv_iload_n hx hb dX11_forgetAll_12 rfl (lv_at hl 0 rfl) ?_
  have f110 := (fr103 (q + 62) (hq_ne q 62 82 (by decide)) (hq_ne q 62 83 (by decide))).trans (f94)
  have f110 : V98 (q + 62) = some (.inl (cs 5, 8, .inr (.inr (.inr (.inr (gl)))))) := f110
  refine hp_aald (v := .ref (q + 84)) hx hb hZ 5 f110 rfl (by unfold vp_in; decide) (congrArg va_rf gl7) dX11_forgetAll_13 ?_
  have f111 := (fr103 (q + 84) (hq_ne q 84 82 (by decide)) (hq_ne q 84 83 (by decide))).trans ((fr87 (q + 84) (hq_ne q 84 79 (by decide)) (hq_ne q 84 80 (by decide))).trans ((fr71 (q + 84) (hq_ne q 84 76 (by decide)) (hq_ne q 84 77 (by decide))).trans ((fr55 (q + 84) (hq_ne q 84 73 (by decide)) (hq_ne q 84 74 (by decide))).trans ((fr39 (q + 84) (hq_ne q 84 70 (by decide)) (hq_ne q 84 71 (by decide))).trans ((fr23 (q + 84) (hq_ne q 84 67 (by decide)) (hq_ne q 84 68 (by decide))).trans ((fr7 (q + 84) (hq_ne q 84 64 (by decide)) (hq_ne q 84 65 (by decide))).trans (ho7)))))))
  have f111 : V98 (q + 84) = some (.inr (4, [.ref (q + 85), .ref (q + 86)])) := f111
  have f112 := (fr103 (q + 85) (hq_ne q 85 82 (by decide)) (hq_ne q 85 83 (by decide))).trans ((fr87 (q + 85) (hq_ne q 85 79 (by decide)) (hq_ne q 85 80 (by decide))).trans ((fr71 (q + 85) (hq_ne q 85 76 (by decide)) (hq_ne q 85 77 (by decide))).trans ((fr55 (q + 85) (hq_ne q 85 73 (by decide)) (hq_ne q 85 74 (by decide))).trans ((fr39 (q + 85) (hq_ne q 85 70 (by decide)) (hq_ne q 85 71 (by decide))).trans ((fr23 (q + 85) (hq_ne q 85 67 (by decide)) (hq_ne q 85 68 (by decide))).trans ((fr7 (q + 85) (hq_ne q 85 64 (by decide)) (hq_ne q 85 65 (by decide))).trans (hm7)))))))
  have f112 : V98 (q + 85) = some (.inl (cs 1, 60, .inl (gm7))) := f112
  have f113 := (fr103 (q + 86) (hq_ne q 86 82 (by decide)) (hq_ne q 86 83 (by decide))).trans ((fr87 (q + 86) (hq_ne q 86 79 (by decide)) (hq_ne q 86 80 (by decide))).trans ((fr71 (q + 86) (hq_ne q 86 76 (by decide)) (hq_ne q 86 77 (by decide))).trans ((fr55 (q + 86) (hq_ne q 86 73 (by decide)) (hq_ne q 86 74 (by decide))).trans ((fr39 (q + 86) (hq_ne q 86 70 (by decide)) (hq_ne q 86 71 (by decide))).trans ((fr23 (q + 86) (hq_ne q 86 67 (by decide)) (hq_ne q 86 68 (by decide))).trans ((fr7 (q + 86) (hq_ne q 86 64 (by decide)) (hq_ne q 86 65 (by decide))).trans (ht7)))))))
  have f113 : V98 (q + 86) = some (.inl (cs 1, 3, .inl (gt7))) := f113
  refine hp_callv (hp_runV (As := []) (rest := []) hx hb hml hown hts (c_X4_forget l D cs B V98 (n) (q + 84) (q + 85) (q + 86) (hq_ne q 84 85 (by decide)) (hq_ne q 84 86 (by decide)) (hq_ne q 85 86 (by decide)) _ _ f111 f112 f113) hZ f111 cv_X11_285 rfl rfl ⟨Nat.le_of_ble_eq_true rfl, Nat.le_of_ble_eq_true rfl⟩ rfl hl.1 rfl (Nat.le_of_ble_eq_true rfl) dX11_forgetAll_14 ⟨(Nat.le_of_ble_eq_true rfl), (Nat.le_of_ble_eq_true rfl)⟩) hZ (fun V114 n115 _ _ hw116 hZ => ?_)
  obtain ⟨hn118, ⟨g121, f120⟩, ⟨g123, f122⟩, fr119⟩ := hw116
  have hn118 : n = n115 := hn118.symm
  subst hn118
  refine lv_iinc (v := 8) (lv' := [(1, .int (8)), (0, .ref (a))]) hx hb dX11_forgetAll_17 hl (k := 0) rfl (by decide) (by decide) rfl (fun ls hl => ?_)
  refine lv_goto (tgt := 2) hx hb dX11_forgetAll_20 (by decide) ?_
  refine lv_iload_n hx hb dX11_forgetAll_2 rfl (lv_at hl 0 rfl) ?_
  refine lv_bipush (v := 8) hx hb dX11_forgetAll_3 (by decide) ?_
  refine lv_icmp_ge (tgt := 23) hx hb dX11_forgetAll_5 (by decide) (fun c124 => ?_) (fun c124 => absurd (by decide) c124)
  refine lv_aload_n hx hb dX11_forgetAll_23 rfl (lv_at hl 1 rfl) ?_
  refine lv_iconst (v := 0) hx hb dX11_forgetAll_24 (by decide) ?_
  have f125 := (fr119 (a) (hq_lt haq 85) (hq_lt haq 86)).trans (f109)
  have f125 : V114 (a) = some (.inr (11, [.ref (q), .ref (q + 2), .ref (q + 5), .ref (q + 46), .ref (q + 50), .ref (q + 62), .ref (q + 87), .int (0), .ref (t1), .ref (t2)])) := f125
  refine hp_put hx hb hts hown hZ f125 fp_X11_57 rfl rfl (Nat.le_of_ble_eq_true rfl) dX11_forgetAll_25 (fun V126 _ _ e127 o128 hZ => ?_)
  have e127 : V126 (a) = some (.inr (11, [.ref (q), .ref (q + 2), .ref (q + 5), .ref (q + 46), .ref (q + 50), .ref (q + 62), .ref (q + 87), .int (0), .ref (t1), .ref (t2)])) := e127
  refine lv_aload_n hx hb dX11_forgetAll_28 rfl (lv_at hl 1 rfl) ?_
  refine hp_get (v := .ref (q + 50)) hx hb hts hown hZ e127 fl_X11_42 rfl dX11_forgetAll_29 ?_
  have f135 := (o128 (q + 50) (hq_lt haq 50).symm).trans ((fr119 (q + 50) (hq_ne q 50 85 (by decide)) (hq_ne q 50 86 (by decide))).trans ((fr103 (q + 50) (hq_ne q 50 82 (by decide)) (hq_ne q 50 83 (by decide))).trans ((fr87 (q + 50) (hq_ne q 50 79 (by decide)) (hq_ne q 50 80 (by decide))).trans ((fr71 (q + 50) (hq_ne q 50 76 (by decide)) (hq_ne q 50 77 (by decide))).trans ((fr55 (q + 50) (hq_ne q 50 73 (by decide)) (hq_ne q 50 74 (by decide))).trans ((fr39 (q + 50) (hq_ne q 50 70 (by decide)) (hq_ne q 50 71 (by decide))).trans ((fr23 (q + 50) (hq_ne q 50 67 (by decide)) (hq_ne q 50 68 (by decide))).trans ((fr7 (q + 50) (hq_ne q 50 64 (by decide)) (hq_ne q 50 65 (by decide))).trans (h_50)))))))))
  have f135 : V126 (q + 50) = some (.inr (1, [.ref (q + 51), .ref (q + 52), .int (0), .ref (q + 53), .ref (q + 55), .ref (q + 57), .null, .null, .null, .int (0), .ref (q + 59), .ref (q + 60), .ref (q + 61)])) := f135
  refine hp_callv (hp_runV (As := []) (rest := []) hx hb hml hown hts (c_X1_forget0 l D cs B V126 (n) q (q + 50) f135) hZ f135 cv_X11_288 rfl rfl ⟨Nat.le_of_ble_eq_true rfl, Nat.le_of_ble_eq_true rfl⟩ rfl hl.1 rfl (Nat.le_of_ble_eq_true rfl) dX11_forgetAll_32 ⟨(Nat.le_of_ble_eq_true rfl), (Nat.le_of_ble_eq_true rfl)⟩) hZ (fun V129 n130 _ _ hw131 hZ => ?_)
  obtain ⟨hn133, f136, fr134⟩ := hw131
  have hn133 : n = n130 := hn133.symm
  subst hn133
  refine lv_aload_n hx hb dX11_forgetAll_35 rfl (lv_at hl 1 rfl) ?_
  have f137 := (fr134 (a) (hq_lt haq 50)).trans (e127)
  have f137 : V129 (a) = some (.inr (11, [.ref (q), .ref (q + 2), .ref (q + 5), .ref (q + 46), .ref (q + 50), .ref (q + 62), .ref (q + 87), .int (0), .ref (t1), .ref (t2)])) := f137
  refine hp_get (v := .ref (q + 46)) hx hb hts hown hZ f137 fl_X11_35 rfl dX11_forgetAll_36 ?_
  refine lv_iconst (v := 0) hx hb dX11_forgetAll_39 (by decide) ?_
  have f138 := (fr134 (q + 46) (hq_ne q 46 50 (by decide))).trans ((o128 (q + 46) (hq_lt haq 46).symm).trans ((fr119 (q + 46) (hq_ne q 46 85 (by decide)) (hq_ne q 46 86 (by decide))).trans ((fr103 (q + 46) (hq_ne q 46 82 (by decide)) (hq_ne q 46 83 (by decide))).trans ((fr87 (q + 46) (hq_ne q 46 79 (by decide)) (hq_ne q 46 80 (by decide))).trans ((fr71 (q + 46) (hq_ne q 46 76 (by decide)) (hq_ne q 46 77 (by decide))).trans ((fr55 (q + 46) (hq_ne q 46 73 (by decide)) (hq_ne q 46 74 (by decide))).trans ((fr39 (q + 46) (hq_ne q 46 70 (by decide)) (hq_ne q 46 71 (by decide))).trans ((fr23 (q + 46) (hq_ne q 46 67 (by decide)) (hq_ne q 46 68 (by decide))).trans ((fr7 (q + 46) (hq_ne q 46 64 (by decide)) (hq_ne q 46 65 (by decide))).trans (h_46))))))))))
  have f138 : V129 (q + 46) = some (.inr (8, [.int (0), .ref (q + 47), .ref (q + 48), .ref (q + 49)])) := f138
  refine hp_put hx hb hts hown hZ f138 fp_X11_289 rfl rfl (Nat.le_of_ble_eq_true rfl) dX11_forgetAll_40 (fun V139 _ _ e140 o141 hZ => ?_)
  have e140 : V139 (q + 46) = some (.inr (8, [.int (0), .ref (q + 47), .ref (q + 48), .ref (q + 49)])) := e140
  have f142 := (o141 (a) (hq_lt haq 46)).trans (f137)
  have f142 : V139 (a) = some (.inr (11, [.ref (q), .ref (q + 2), .ref (q + 5), .ref (q + 46), .ref (q + 50), .ref (q + 62), .ref (q + 87), .int (0), .ref (t1), .ref (t2)])) := f142
  exact hp_vret hx hb hr hlocks hZ ⟨rfl, f142, fun x hxq => (o141 (x) (hq_ge hxq 46 (by decide))).trans ((fr134 (x) (hq_ge hxq 50 (by decide))).trans ((o128 (x) (hq_gea hxq haq)).trans ((fr119 (x) (hq_ge hxq 85 (by decide)) (hq_ge hxq 86 (by decide))).trans ((fr103 (x) (hq_ge hxq 82 (by decide)) (hq_ge hxq 83 (by decide))).trans ((fr87 (x) (hq_ge hxq 79 (by decide)) (hq_ge hxq 80 (by decide))).trans ((fr71 (x) (hq_ge hxq 76 (by decide)) (hq_ge hxq 77 (by decide))).trans ((fr55 (x) (hq_ge hxq 73 (by decide)) (hq_ge hxq 74 (by decide))).trans ((fr39 (x) (hq_ge hxq 70 (by decide)) (hq_ge hxq 71 (by decide))).trans ((fr23 (x) (hq_ge hxq 67 (by decide)) (hq_ge hxq 68 (by decide))).trans (fr7 (x) (hq_ge hxq 64 (by decide)) (hq_ge hxq 65 (by decide))))))))))))⟩ dX11_forgetAll_43

set_option maxHeartbeats 4000000 in
set_option maxRecDepth 100000 in
theorem c_X7_step0 (l : Launch) (D : va_G) (cs : Nat → ClassId) (B : Nat) (V : hp_V) (n : Nat) (t tt : Nat) (htt : t ≠ tt) (fk fp tk st : Int32) (ou nm r0 : Value) (f0 : V t = some (.inr (7, [.int (fk), .int (fp), .ref (tt), ou, .int (0), .int (tk), .int (st), nm]))) (f1 : V tt = some (.inr (9, [r0, .int (0)]))) : hp_M l yX7_step cX7_step 3 none ({ frames := 2, cells := 0, slots := 0, locals := 42 }) D cs B V n [.ref (t)] (hp_QV D cs B (fun V' n' => n' = n ∧ V' t = some (.inr (7, [.int (fk), .int (fp), .ref (tt), ou, .int (1), .int (21), .int (0), nm])) ∧ ∀ x, x ≠ t → V' x = V x)) 0 (0) := by
  refine hp_walk (R0 := RX7) (by decide) rfl ?_ (Nat.le_of_ble_eq_true rfl)
  intro p e s m below meth c ls hx hb hr hts hown hlocks hin hml hZ hl
  have hl : lv_has ls 3 [(0, .ref (t))] := hl
  refine lv_aload_n hx hb dX7_step_0 rfl (lv_at hl 0 rfl) ?_
  refine lv_aload_n hx hb dX7_step_1 rfl (lv_at hl 0 rfl) ?_
  refine hp_get (v := .int (0)) hx hb hts hown hZ f0 fl_X7_39 rfl dX7_step_2 ?_
  refine hp_put hx hb hts hown hZ f0 fp_X7_174 rfl rfl (Nat.le_of_ble_eq_true rfl) dX7_step_5 (fun V1 _ _ e2 o3 hZ => ?_)
  have e2 : V1 (t) = some (.inr (7, [.int (fk), .int (fp), .ref (tt), ou, .int (0), .int (tk), .int (0), nm])) := e2
  refine lv_aload_n hx hb dX7_step_8 rfl (lv_at hl 0 rfl) ?_
  refine hp_get (v := .int (0)) hx hb hts hown hZ e2 fl_X7_174 rfl dX7_step_9 ?_
  refine lv_aload_n hx hb dX7_step_12 rfl (lv_at hl 0 rfl) ?_
  refine hp_get (v := .ref (tt)) hx hb hts hown hZ e2 fl_X7_27 rfl dX7_step_13 ?_
  have f4 := (o3 (tt) (by omega)).trans (f1)
  have f4 : V1 (tt) = some (.inr (9, [r0, .int (0)])) := f4
  refine hp_get (v := .int (0)) hx hb hts hown hZ f4 fl_X7_192 rfl dX7_step_16 ?_
  refine lv_icmp_ge (tgt := 67) hx hb dX7_step_19 (by decide) (fun c5 => ?_) (fun c5 => absurd (by decide) c5)
  refine lv_aload_n hx hb dX7_step_67 rfl (lv_at hl 0 rfl) ?_
  refine lv_aload_n hx hb dX7_step_68 rfl (lv_at hl 0 rfl) ?_
  refine hp_get (v := .int (0)) hx hb hts hown hZ e2 fl_X7_174 rfl dX7_step_69 ?_
  refine lv_iconst (v := 1) hx hb dX7_step_72 (by decide) ?_
  refine lv_iadd hx hb dX7_step_73 ?_
  refine lv_topi (fun y6 ey7 => ?_)
  obtain rfl : y6 = 1 := ey7.trans (by decide)
  refine hp_put hx hb hts hown hZ e2 fp_X7_39 rfl rfl (Nat.le_of_ble_eq_true rfl) dX7_step_74 (fun V8 _ _ e9 o10 hZ => ?_)
  have e9 : V8 (t) = some (.inr (7, [.int (fk), .int (fp), .ref (tt), ou, .int (1), .int (tk), .int (0), nm])) := e9
  refine lv_aload_n hx hb dX7_step_77 rfl (lv_at hl 0 rfl) ?_
  refine hp_get (v := .ref (tt)) hx hb hts hown hZ e9 fl_X7_27 rfl dX7_step_78 ?_
  refine lv_aload_n hx hb dX7_step_81 rfl (lv_at hl 0 rfl) ?_
  refine hp_get (v := .int (0)) hx hb hts hown hZ e9 fl_X7_174 rfl dX7_step_82 ?_
  have f15 := (o10 (tt) (by omega)).trans (f4)
  have f15 : V8 (tt) = some (.inr (9, [r0, .int (0)])) := f15
  refine hp_calli (hp_runV (As := [.int (0)]) (rest := []) hx hb hml hown hts (c_X9_at0 l D cs B V8 (n) (tt) _ f15) hZ f15 cv_X7_182 rfl rfl ⟨Nat.le_of_ble_eq_true rfl, Nat.le_of_ble_eq_true rfl⟩ rfl hl.1 rfl (Nat.le_of_ble_eq_true rfl) dX7_step_85 ⟨(Nat.le_of_ble_eq_true rfl), (Nat.le_of_ble_eq_true rfl)⟩) hZ (fun r14 V11 n12 _ _ hw13 hZ => ?_)
  obtain ⟨rfl, rfl, rfl⟩ := hw13
  refine lv_istore_n (lv' := [(1, .int (-1)), (0, .ref (t))]) hx hb dX7_step_88 rfl hl (by decide) rfl (fun ls hl => ?_)
  refine lv_iload_n hx hb dX7_step_89 rfl (lv_at hl 0 rfl) ?_
  refine lv_iconst (v := -1) hx hb dX7_step_90 (by decide) ?_
  refine lv_icmp_ne (tgt := 103) hx hb dX7_step_91 (by decide) (fun c16 => absurd (by decide) c16) (fun c16 => ?_)
  refine lv_aload_n hx hb dX7_step_94 rfl (lv_at hl 1 rfl) ?_
  refine lv_bipush (v := 21) hx hb dX7_step_95 (by decide) ?_
  refine hp_put hx hb hts hown hZ e9 fp_X7_45 rfl rfl (Nat.le_of_ble_eq_true rfl) dX7_step_97 (fun V17 _ _ e18 o19 hZ => ?_)
  have e18 : V17 (t) = some (.inr (7, [.int (fk), .int (fp), .ref (tt), ou, .int (1), .int (21), .int (0), nm])) := e18
  refine lv_goto (tgt := 321) hx hb dX7_step_100 (by decide) ?_
  exact hp_vret hx hb hr hlocks hZ ⟨rfl, e18, fun x hx9 => (o19 x hx9).trans ((o10 x hx9).trans (o3 x hx9))⟩ dX7_step_321

set_option maxHeartbeats 4000000 in
set_option maxRecDepth 100000 in
theorem c_X7_parse0 (l : Launch) (D : va_G) (cs : Nat → ClassId) (B : Nat) (V : hp_V) (n : Nat) (t tt k : Nat) (htt : t ≠ tt) (htk : t ≠ k) (hkt : k ≠ tt) (fk fp nx tk st : Int32) (ot ou nm r0 b0 b2 b3 b5 : Value) (f0 : V t = some (.inr (7, [.int (fk), .int (fp), ot, ou, .int (nx), .int (tk), .int (st), nm]))) (f1 : V tt = some (.inr (9, [r0, .int (0)]))) (f2 : V k = some (.inr (0, [b0, .int (0), b2, b3, .int (0), b5, .int (0)]))) : hp_M l yX7_parse cX7_parse 5 (some .boolean) ({ frames := 3, cells := 0, slots := 0, locals := 64 }) D cs B V n [.ref (t), .ref (tt), .ref (k)] (hp_QI D cs B (fun r V' n' => r = 1 ∧ n' = n ∧ V' t = some (.inr (7, [.int (0), .int (-1), .ref (tt), .ref (k), .int (1), .int (21), .int (0), nm])) ∧ V' k = some (.inr (0, [b0, .int (0), b2, b3, .int (0), b5, .int (0)])) ∧ ∀ x, x ≠ t → x ≠ k → V' x = V x)) 0 (0) := by
  refine hp_walk (R0 := RX7) (by decide) rfl ?_ (Nat.le_of_ble_eq_true rfl)
  intro p e s m below meth c ls hx hb hr hts hown hlocks hin hml hZ hl
  have hl : lv_has ls 5 [(0, .ref (t)), (1, .ref (tt)), (2, .ref (k))] := hl
  refine lv_aload_n hx hb dX7_parse_0 rfl (lv_at hl 0 rfl) ?_
  refine lv_aload_n hx hb dX7_parse_1 rfl (lv_at hl 1 rfl) ?_
  refine hp_put hx hb hts hown hZ f0 fp_X7_27 rfl rfl (Nat.le_of_ble_eq_true rfl) dX7_parse_2 (fun V1 _ _ e2 o3 hZ => ?_)
  have e2 : V1 (t) = some (.inr (7, [.int (fk), .int (fp), .ref (tt), ou, .int (nx), .int (tk), .int (st), nm])) := e2
  refine lv_aload_n hx hb dX7_parse_5 rfl (lv_at hl 0 rfl) ?_
  refine lv_aload_n hx hb dX7_parse_6 rfl (lv_at hl 2 rfl) ?_
  refine hp_put hx hb hts hown hZ e2 fp_X7_30 rfl rfl (Nat.le_of_ble_eq_true rfl) dX7_parse_7 (fun V4 _ _ e5 o6 hZ => ?_)
  have e5 : V4 (t) = some (.inr (7, [.int (fk), .int (fp), .ref (tt), .ref (k), .int (nx), .int (tk), .int (st), nm])) := e5
  refine lv_aload_n hx hb dX7_parse_10 rfl (lv_at hl 0 rfl) ?_
  refine hp_get (v := .ref (k)) hx hb hts hown hZ e5 fl_X7_30 rfl dX7_parse_11 ?_
  have f13 := (o6 (k) (by omega)).trans ((o3 (k) (by omega)).trans (f2))
  have f13 : V4 (k) = some (.inr (0, [b0, .int (0), b2, b3, .int (0), b5, .int (0)])) := f13
  refine hp_callv (hp_runV (As := []) (rest := []) hx hb hml hown hts (c_X0_clear0 l D cs B V4 (n) (k) _ _ _ _ f13) hZ f13 cv_X7_34 rfl rfl ⟨Nat.le_of_ble_eq_true rfl, Nat.le_of_ble_eq_true rfl⟩ rfl hl.1 rfl (Nat.le_of_ble_eq_true rfl) dX7_parse_14 ⟨(Nat.le_of_ble_eq_true rfl), (Nat.le_of_ble_eq_true rfl)⟩) hZ (fun V7 n8 _ _ hw9 hZ => ?_)
  obtain ⟨hn11, f14, fr12⟩ := hw9
  have hn11 : n = n8 := hn11.symm
  subst hn11
  refine lv_aload_n hx hb dX7_parse_17 rfl (lv_at hl 0 rfl) ?_
  refine lv_iconst (v := 0) hx hb dX7_parse_18 (by decide) ?_
  have f15 := (fr12 (t) (by omega)).trans (e5)
  have f15 : V7 (t) = some (.inr (7, [.int (fk), .int (fp), .ref (tt), .ref (k), .int (nx), .int (tk), .int (st), nm])) := f15
  refine hp_put hx hb hts hown hZ f15 fp_X7_9 rfl rfl (Nat.le_of_ble_eq_true rfl) dX7_parse_19 (fun V16 _ _ e17 o18 hZ => ?_)
  have e17 : V16 (t) = some (.inr (7, [.int (0), .int (fp), .ref (tt), .ref (k), .int (nx), .int (tk), .int (st), nm])) := e17
  refine lv_aload_n hx hb dX7_parse_22 rfl (lv_at hl 0 rfl) ?_
  refine lv_iconst (v := -1) hx hb dX7_parse_23 (by decide) ?_
  refine hp_put hx hb hts hown hZ e17 fp_X7_15 rfl rfl (Nat.le_of_ble_eq_true rfl) dX7_parse_24 (fun V19 _ _ e20 o21 hZ => ?_)
  have e20 : V19 (t) = some (.inr (7, [.int (0), .int (-1), .ref (tt), .ref (k), .int (nx), .int (tk), .int (st), nm])) := e20
  refine lv_aload_n hx hb dX7_parse_27 rfl (lv_at hl 0 rfl) ?_
  refine lv_iconst (v := 0) hx hb dX7_parse_28 (by decide) ?_
  refine hp_put hx hb hts hown hZ e20 fp_X7_39 rfl rfl (Nat.le_of_ble_eq_true rfl) dX7_parse_29 (fun V22 _ _ e23 o24 hZ => ?_)
  have e23 : V22 (t) = some (.inr (7, [.int (0), .int (-1), .ref (tt), .ref (k), .int (0), .int (tk), .int (st), nm])) := e23
  refine lv_aload_n hx hb dX7_parse_32 rfl (lv_at hl 0 rfl) ?_
  have f31 := (o24 (tt) (by omega)).trans ((o21 (tt) (by omega)).trans ((o18 (tt) (by omega)).trans ((fr12 (tt) (by omega)).trans ((o6 (tt) (by omega)).trans ((o3 (tt) (by omega)).trans (f1))))))
  have f31 : V22 (tt) = some (.inr (9, [r0, .int (0)])) := f31
  refine hp_callv (hp_runV (As := []) (rest := []) hx hb hml hown hts (c_X7_step0 l D cs B V22 (n) (t) tt htt _ _ _ _ _ _ _ e23 f31) hZ e23 cv_X7_42 rfl rfl ⟨Nat.le_of_ble_eq_true rfl, Nat.le_of_ble_eq_true rfl⟩ rfl hl.1 rfl (Nat.le_of_ble_eq_true rfl) dX7_parse_33 ⟨(Nat.le_of_ble_eq_true rfl), (Nat.le_of_ble_eq_true rfl)⟩) hZ (fun V25 n26 _ _ hw27 hZ => ?_)
  obtain ⟨hn29, f32, fr30⟩ := hw27
  have hn29 : n = n26 := hn29.symm
  subst hn29
  refine lv_iconst (v := 1) hx hb dX7_parse_36 (by decide) ?_
  refine lv_istore_n (lv' := [(3, .int (1)), (0, .ref (t)), (1, .ref (tt)), (2, .ref (k))]) hx hb dX7_parse_37 rfl hl (by decide) rfl (fun ls hl => ?_)
  refine lv_iconst (v := 0) hx hb dX7_parse_38 (by decide) ?_
  refine lv_istore (lv' := [(4, .int (0)), (3, .int (1)), (0, .ref (t)), (1, .ref (tt)), (2, .ref (k))]) hx hb dX7_parse_39 hl (by decide) rfl (fun ls hl => ?_)
  refine lv_iload hx hb dX7_parse_41 (lv_at hl 0 rfl) ?_
  refine lv_sipush (v := 4000) hx hb dX7_parse_43 (by decide) ?_
  refine lv_icmp_gt (tgt := 138) hx hb dX7_parse_46 (by decide) (fun c33 => absurd c33 (by decide)) (fun c33 => ?_)
  refine lv_iload_n hx hb dX7_parse_49 rfl (lv_at hl 1 rfl) ?_
  refine lv_if_eq (tgt := 138) hx hb dX7_parse_50 (by decide) (fun c34 => absurd c34 (by decide)) (fun c34 => ?_)
  refine lv_aload_n hx hb dX7_parse_53 rfl (lv_at hl 2 rfl) ?_
  refine hp_get (v := .int (21)) hx hb hts hown hZ f32 fl_X7_45 rfl dX7_parse_54 ?_
  refine lv_bipush (v := 21) hx hb dX7_parse_57 (by decide) ?_
  refine lv_icmp_eq (tgt := 138) hx hb dX7_parse_59 (by decide) (fun c35 => ?_) (fun c35 => absurd (by decide) c35)
  refine lv_iload_n hx hb dX7_parse_138 rfl (lv_at hl 1 rfl) ?_
  have f36 := (fr30 (k) (by omega)).trans ((o24 (k) (by omega)).trans ((o21 (k) (by omega)).trans ((o18 (k) (by omega)).trans (f14))))
  have f36 : V25 (k) = some (.inr (0, [b0, .int (0), b2, b3, .int (0), b5, .int (0)])) := f36
  exact hp_zret hx hb hr rfl hlocks hZ ⟨rfl, rfl, f32, f36, fun x hx8 hx9 => (fr30 (x) (by omega)).trans ((o24 (x) (by omega)).trans ((o21 (x) (by omega)).trans ((o18 (x) (by omega)).trans ((fr12 (x) (by omega)).trans ((o6 (x) (by omega)).trans (o3 (x) (by omega)))))))⟩ dX7_parse_139

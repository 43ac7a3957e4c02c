set_option maxHeartbeats 4000000 in
set_option maxRecDepth 100000 in
theorem k_feed (l : Launch) (D : va_G) (cs : Nat → ClassId) (B : Nat) (V : hp_V) (n : Nat) (a q : Nat) (haq : a < q) (hF : fx_X cs a q V) (u v w y z : Int32) : hp_M l yX11_feed cX11_feed 6 (some .int) ({ frames := 3, cells := 0, slots := 0, locals := 64 }) D cs B V n [.ref (a), .int (u), .int (v), .int (w), .int (y), .int (z)] (hp_QI D cs B (fun r V' n' => (r = 20) ∧ n' = n ∧ ∀ x, q + 842 ≤ x → V' x = V x)) 0 (0) := by
  refine hp_walk (R0 := RX11) (by decide) rfl ?_ (Nat.le_of_ble_eq_true rfl)
  intro p e s m below meth c ls hx hb hr hts hown hlocks hin hml hZ hl
  have hl : lv_has ls 6 [(0, .ref (a)), (1, .int (u)), (2, .int (v)), (3, .int (w)), (4, .int (y)), (5, .int (z))] := hl
  obtain ⟨h_a, h_0, h_1, h_2, h_46, h_50, ⟨gl, h_62, gl0, gl1, gl2, gl3, gl4, gl5, gl6, gl7⟩, -, -, -, -, -, -, -, -, h_88, h_465⟩ := hF
  refine lv_aload_n hx hb dX11_feed_0 rfl (lv_at hl 0 rfl) ?_
  refine hp_get (v := .ref (q)) hx hb hts hown hZ h_a fl_X11_14 rfl dX11_feed_1 ?_
  refine hp_get (v := .int (0)) hx hb hts hown hZ h_0 fl_X11_71 rfl dX11_feed_4 ?_
  refine lv_bipush (v := 20) hx hb dX11_feed_7 (by decide) ?_
  refine lv_iadd hx hb dX11_feed_9 ?_
  refine lv_sipush (v := 4000) hx hb dX11_feed_10 (by decide) ?_
  refine lv_icmp_le (tgt := 19) hx hb dX11_feed_13 (by decide) (fun c1 => ?_) (fun c1 => absurd (by decide) c1)
  have f2 : V q = some (.inr (9, [.ref (q + 1), .int (nI 0)])) := by rw [nI_0]; exact h_0
  refine lv_aload_n hx hb dX11_feed_19 rfl (lv_at hl 0 rfl) ?_
  refine hp_get (v := .ref (q)) hx hb hts hown hZ h_a fl_X11_14 rfl dX11_feed_20 ?_
  refine lv_iload_n hx hb dX11_feed_23 rfl (lv_at hl 1 rfl) ?_
  refine hp_callv (hp_runV (As := [.int (u)]) (rest := []) hx hb hml hown hts (c_X9_addInt4 l D cs B V (n) q (q + 1) 0 u _ (hq_ne q 0 1 (by decide)) (by decide) f2 h_1) hZ f2 cv_X11_74 rfl rfl ⟨Nat.le_of_ble_eq_true rfl, Nat.le_of_ble_eq_true rfl⟩ rfl hl.1 rfl (Nat.le_of_ble_eq_true rfl) dX11_feed_24 ⟨(Nat.le_of_ble_eq_true rfl), (Nat.le_of_ble_eq_true rfl)⟩) hZ (fun V3 n4 _ _ hw5 hZ => ?_)
  obtain ⟨hn7, f9, ⟨g11, f10⟩, fr8⟩ := hw5
  have hn7 : n = n4 := hn7.symm
  subst hn7
  refine lv_aload_n hx hb dX11_feed_27 rfl (lv_at hl 0 rfl) ?_
  have f12 := (fr8 (a) (hq_lt haq 0) (hq_lt haq 1)).trans (h_a)
  have f12 : V3 (a) = some (.inr (11, [.ref (q), .ref (q + 2), .ref (q + 5), .ref (q + 46), .ref (q + 50), .ref (q + 62), .ref (q + 87), .int (0), .ref (q + 88), .ref (q + 465)])) := f12
  refine hp_get (v := .ref (q)) hx hb hts hown hZ f12 fl_X11_14 rfl dX11_feed_28 ?_
  refine lv_iload_n hx hb dX11_feed_31 rfl (lv_at hl 2 rfl) ?_
  refine hp_callv (hp_runV (As := [.int (v)]) (rest := []) hx hb hml hown hts (c_X9_addInt4 l D cs B V3 (n) q (q + 1) 4 v _ (hq_ne q 0 1 (by decide)) (by decide) f9 f10) hZ f9 cv_X11_74 rfl rfl ⟨Nat.le_of_ble_eq_true rfl, Nat.le_of_ble_eq_true rfl⟩ rfl hl.1 rfl (Nat.le_of_ble_eq_true rfl) dX11_feed_32 ⟨(Nat.le_of_ble_eq_true rfl), (Nat.le_of_ble_eq_true rfl)⟩) hZ (fun V13 n14 _ _ hw15 hZ => ?_)
  obtain ⟨hn17, f19, ⟨g21, f20⟩, fr18⟩ := hw15
  have hn17 : n = n14 := hn17.symm
  subst hn17
  refine lv_aload_n hx hb dX11_feed_35 rfl (lv_at hl 0 rfl) ?_
  have f22 := (fr18 (a) (hq_lt haq 0) (hq_lt haq 1)).trans (f12)
  have f22 : V13 (a) = some (.inr (11, [.ref (q), .ref (q + 2), .ref (q + 5), .ref (q + 46), .ref (q + 50), .ref (q + 62), .ref (q + 87), .int (0), .ref (q + 88), .ref (q + 465)])) := f22
  refine hp_get (v := .ref (q)) hx hb hts hown hZ f22 fl_X11_14 rfl dX11_feed_36 ?_
  refine lv_iload_n hx hb dX11_feed_39 rfl (lv_at hl 3 rfl) ?_
  refine hp_callv (hp_runV (As := [.int (w)]) (rest := []) hx hb hml hown hts (c_X9_addInt4 l D cs B V13 (n) q (q + 1) 8 w _ (hq_ne q 0 1 (by decide)) (by decide) f19 f20) hZ f19 cv_X11_74 rfl rfl ⟨Nat.le_of_ble_eq_true rfl, Nat.le_of_ble_eq_true rfl⟩ rfl hl.1 rfl (Nat.le_of_ble_eq_true rfl) dX11_feed_40 ⟨(Nat.le_of_ble_eq_true rfl), (Nat.le_of_ble_eq_true rfl)⟩) hZ (fun V23 n24 _ _ hw25 hZ => ?_)
  obtain ⟨hn27, f29, ⟨g31, f30⟩, fr28⟩ := hw25
  have hn27 : n = n24 := hn27.symm
  subst hn27
  refine lv_aload_n hx hb dX11_feed_43 rfl (lv_at hl 0 rfl) ?_
  have f32 := (fr28 (a) (hq_lt haq 0) (hq_lt haq 1)).trans (f22)
  have f32 : V23 (a) = some (.inr (11, [.ref (q), .ref (q + 2), .ref (q + 5), .ref (q + 46), .ref (q + 50), .ref (q + 62), .ref (q + 87), .int (0), .ref (q + 88), .ref (q + 465)])) := f32
  refine hp_get (v := .ref (q)) hx hb hts hown hZ f32 fl_X11_14 rfl dX11_feed_44 ?_
  refine lv_iload hx hb dX11_feed_47 (lv_at hl 4 rfl) ?_
  refine hp_callv (hp_runV (As := [.int (y)]) (rest := []) hx hb hml hown hts (c_X9_addInt4 l D cs B V23 (n) q (q + 1) 12 y _ (hq_ne q 0 1 (by decide)) (by decide) f29 f30) hZ f29 cv_X11_74 rfl rfl ⟨Nat.le_of_ble_eq_true rfl, Nat.le_of_ble_eq_true rfl⟩ rfl hl.1 rfl (Nat.le_of_ble_eq_true rfl) dX11_feed_49 ⟨(Nat.le_of_ble_eq_true rfl), (Nat.le_of_ble_eq_true rfl)⟩) hZ (fun V33 n34 _ _ hw35 hZ => ?_)
  obtain ⟨hn37, f39, ⟨g41, f40⟩, fr38⟩ := hw35
  have hn37 : n = n34 := hn37.symm
  subst hn37
  refine lv_aload_n hx hb dX11_feed_52 rfl (lv_at hl 0 rfl) ?_
  have f42 := (fr38 (a) (hq_lt haq 0) (hq_lt haq 1)).trans (f32)
  have f42 : V33 (a) = some (.inr (11, [.ref (q), .ref (q + 2), .ref (q + 5), .ref (q + 46), .ref (q + 50), .ref (q + 62), .ref (q + 87), .int (0), .ref (q + 88), .ref (q + 465)])) := f42
  refine hp_get (v := .ref (q)) hx hb hts hown hZ f42 fl_X11_14 rfl dX11_feed_53 ?_
  refine lv_iload hx hb dX11_feed_56 (lv_at hl 5 rfl) ?_
  refine hp_callv (hp_runV (As := [.int (z)]) (rest := []) hx hb hml hown hts (c_X9_addInt4 l D cs B V33 (n) q (q + 1) 16 z _ (hq_ne q 0 1 (by decide)) (by decide) f39 f40) hZ f39 cv_X11_74 rfl rfl ⟨Nat.le_of_ble_eq_true rfl, Nat.le_of_ble_eq_true rfl⟩ rfl hl.1 rfl (Nat.le_of_ble_eq_true rfl) dX11_feed_58 ⟨(Nat.le_of_ble_eq_true rfl), (Nat.le_of_ble_eq_true rfl)⟩) hZ (fun V43 n44 _ _ hw45 hZ => ?_)
  obtain ⟨hn47, f49, ⟨g51, f50⟩, fr48⟩ := hw45
  have hn47 : n = n44 := hn47.symm
  subst hn47
  refine lv_aload_n hx hb dX11_feed_61 rfl (lv_at hl 0 rfl) ?_
  have f52 := (fr48 (a) (hq_lt haq 0) (hq_lt haq 1)).trans (f42)
  have f52 : V43 (a) = some (.inr (11, [.ref (q), .ref (q + 2), .ref (q + 5), .ref (q + 46), .ref (q + 50), .ref (q + 62), .ref (q + 87), .int (0), .ref (q + 88), .ref (q + 465)])) := f52
  refine hp_get (v := .ref (q)) hx hb hts hown hZ f52 fl_X11_14 rfl dX11_feed_62 ?_
  refine hp_get (v := .int (nI 20)) hx hb hts hown hZ f49 fl_X11_71 rfl dX11_feed_65 ?_
  exact hp_iret hx hb hr hlocks hZ ⟨by decide, rfl, fun x hxq => (fr48 (x) (hq_ge hxq 0 (by decide)) (hq_ge hxq 1 (by decide))).trans ((fr38 (x) (hq_ge hxq 0 (by decide)) (hq_ge hxq 1 (by decide))).trans ((fr28 (x) (hq_ge hxq 0 (by decide)) (hq_ge hxq 1 (by decide))).trans ((fr18 (x) (hq_ge hxq 0 (by decide)) (hq_ge hxq 1 (by decide))).trans (fr8 (x) (hq_ge hxq 0 (by decide)) (hq_ge hxq 1 (by decide))))))⟩ dX11_feed_68

set_option maxHeartbeats 4000000 in
set_option maxRecDepth 100000 in
theorem k_end (l : Launch) (D : va_G) (cs : Nat → ClassId) (B : Nat) (V : hp_V) (n : Nat) (a q : Nat) (haq : a < q) (hF : fx_X cs a q V) (k : Int32) : hp_M l yX11_end cX11_end 2 (some .int) ({ frames := 1, cells := 0, slots := 0, locals := 21 }) D cs B V n [.ref (a), .int (k)] (hp_QI D cs B (fun r V' n' => ((k = 0 → r = 0) ∧ (k ≠ 0 → r = -1)) ∧ n' = n ∧ ∀ x, q + 842 ≤ x → V' x = V x)) 0 (0) := by
  refine hp_walk (R0 := RX11) (by decide) rfl ?_ (Nat.le_of_ble_eq_true rfl)
  intro p e s m below meth c ls hx hb hr hts hown hlocks hin hml hZ hl
  have hl : lv_has ls 2 [(0, .ref (a)), (1, .int (k))] := hl
  obtain ⟨h_a, h_0, h_1, h_2, h_46, h_50, ⟨gl, h_62, gl0, gl1, gl2, gl3, gl4, gl5, gl6, gl7⟩, -, -, -, -, -, -, -, -, h_88, h_465⟩ := hF
  refine lv_iload_n hx hb dX11_end_0 rfl (lv_at hl 1 rfl) ?_
  refine lv_if_lt (tgt := 15) hx hb dX11_end_1 (by decide) (fun c1 => ?_) (fun c1 => ?_)
  · refine lv_iconst (v := -1) hx hb dX11_end_15 (by decide) ?_
    exact hp_iret hx hb hr hlocks hZ ⟨⟨fun h9 => by subst h9; exact absurd c1 (by decide), fun _ => rfl⟩, rfl, fun x hxq => rfl⟩ dX11_end_16
  · refine lv_iload_n hx hb dX11_end_4 rfl (lv_at hl 1 rfl) ?_
    refine lv_aload_n hx hb dX11_end_5 rfl (lv_at hl 0 rfl) ?_
    refine hp_get (v := .ref (q)) hx hb hts hown hZ h_a fl_X11_14 rfl dX11_end_6 ?_
    refine hp_get (v := .int (0)) hx hb hts hown hZ h_0 fl_X11_71 rfl dX11_end_9 ?_
    refine lv_icmp_le (tgt := 17) hx hb dX11_end_12 (by decide) (fun c2 => ?_) (fun c2 => ?_)
    · refine lv_aload_n hx hb dX11_end_17 rfl (lv_at hl 0 rfl) ?_
      refine hp_get (v := .ref (q)) hx hb hts hown hZ h_a fl_X11_14 rfl dX11_end_18 ?_
      refine lv_iload_n hx hb dX11_end_21 rfl (lv_at hl 1 rfl) ?_
      refine hp_put hx hb hts hown hZ h_0 fp_X11_71 rfl rfl (Nat.le_of_ble_eq_true rfl) dX11_end_22 (fun V3 _ _ e4 o5 hZ => ?_)
      have e4 : V3 (q) = some (.inr (9, [.ref (q + 1), .int (k)])) := e4
      refine lv_iload_n hx hb dX11_end_25 rfl (lv_at hl 1 rfl) ?_
      exact hp_iret hx hb hr hlocks hZ ⟨⟨fun h9 => h9, fun h9 => absurd (Int32.le_antisymm c2 (Int32.not_lt.mp c1)) h9⟩, rfl, fun x hxq => o5 (x) (hq_ge hxq 0 (by decide))⟩ dX11_end_26
    · refine lv_iconst (v := -1) hx hb dX11_end_15 (by decide) ?_
      exact hp_iret hx hb hr hlocks hZ ⟨⟨fun h9 => by subst h9; exact absurd (by decide) c2, fun _ => rfl⟩, rfl, fun x hxq => rfl⟩ dX11_end_16

set_option maxHeartbeats 4000000 in
set_option maxRecDepth 100000 in
theorem k_book (l : Launch) (D : va_G) (cs : Nat → ClassId) (B : Nat) (V : hp_V) (n : Nat) (a q : Nat) (haq : a < q) (hF : fx_X cs a q V) : hp_M l yX11_book cX11_book 3 (some .int) ({ frames := 4, cells := 0, slots := 0, locals := 88 }) D cs B V n [.ref (a)] (hp_QI D cs B (fun r V' n' => (r = 0) ∧ n' = n ∧ ∀ x, q + 842 ≤ x → V' x = V x)) 0 (0) := by
  refine hp_walk (R0 := RX11) (by decide) rfl ?_ (Nat.le_of_ble_eq_true rfl)
  intro p e s m below meth c ls hx hb hr hts hown hlocks hin hml hZ hl
  have hl : lv_has ls 3 [(0, .ref (a))] := hl
  obtain ⟨h_a, h_0, h_1, h_2, h_46, h_50, ⟨gl, h_62, gl0, gl1, gl2, gl3, gl4, gl5, gl6, gl7⟩, ⟨ho0, ⟨gm0, hm0⟩, ⟨gt0, ht0⟩⟩, ⟨ho1, ⟨gm1, hm1⟩, ⟨gt1, ht1⟩⟩, ⟨ho2, ⟨gm2, hm2⟩, ⟨gt2, ht2⟩⟩, ⟨ho3, ⟨gm3, hm3⟩, ⟨gt3, ht3⟩⟩, ⟨ho4, ⟨gm4, hm4⟩, ⟨gt4, ht4⟩⟩, ⟨ho5, ⟨gm5, hm5⟩, ⟨gt5, ht5⟩⟩, ⟨ho6, ⟨gm6, hm6⟩, ⟨gt6, ht6⟩⟩, ⟨ho7, ⟨gm7, hm7⟩, ⟨gt7, ht7⟩⟩, h_88, h_465⟩ := hF
  refine lv_aload_n hx hb dX11_book_0 rfl (lv_at hl 0 rfl) ?_
  refine hp_get (v := .ref (q + 2)) hx hb hts hown hZ h_a fl_X11_21 rfl dX11_book_1 ?_
  refine lv_aload_n hx hb dX11_book_4 rfl (lv_at hl 0 rfl) ?_
  refine hp_get (v := .ref (q)) hx hb hts hown hZ h_a fl_X11_14 rfl dX11_book_5 ?_
  refine lv_aload_n hx hb dX11_book_8 rfl (lv_at hl 0 rfl) ?_
  refine hp_get (v := .ref (q + 465)) hx hb hts hown hZ h_a fl_X11_68 rfl dX11_book_9 ?_
  refine hp_calli (hp_runV (As := [.ref (q), .ref (q + 465)]) (rest := []) hx hb hml hown hts (c_X7_parse0 l D cs B V (n) (q + 2) q (q + 465) (hq_ne q 2 0 (by decide)) (hq_ne q 2 465 (by decide)) (hq_ne q 465 0 (by decide)) _ _ _ _ _ _ _ _ _ _ _ _ _ h_2 h_0 h_465) hZ h_2 cv_X11_77 rfl rfl ⟨Nat.le_of_ble_eq_true rfl, Nat.le_of_ble_eq_true rfl⟩ rfl hl.1 rfl (Nat.le_of_ble_eq_true rfl) dX11_book_12 ⟨(Nat.le_of_ble_eq_true rfl), (Nat.le_of_ble_eq_true rfl)⟩) hZ (fun r4 V1 n2 _ _ hw3 hZ => ?_)
  obtain ⟨rfl, hn5, f7, f8, fr6⟩ := hw3
  have hn5 : n = n2 := hn5.symm
  subst hn5
  refine lv_istore_n (lv' := [(1, .int (1)), (0, .ref (a))]) hx hb dX11_book_15 rfl hl (by decide) rfl (fun ls hl => ?_)
  refine lv_aload_n hx hb dX11_book_16 rfl (lv_at hl 1 rfl) ?_
  have f9 := (fr6 (a) (hq_lt haq 2) (hq_lt haq 465)).trans (h_a)
  have f9 : V1 (a) = some (.inr (11, [.ref (q), .ref (q + 2), .ref (q + 5), .ref (q + 46), .ref (q + 50), .ref (q + 62), .ref (q + 87), .int (0), .ref (q + 88), .ref (q + 465)])) := f9
  refine hp_get (v := .ref (q)) hx hb hts hown hZ f9 fl_X11_14 rfl dX11_book_17 ?_
  have f16 := (fr6 (q) (hq_ne q 0 2 (by decide)) (hq_ne q 0 465 (by decide))).trans (h_0)
  have f16 : V1 (q) = some (.inr (9, [.ref (q + 1), .int (0)])) := f16
  refine hp_callv (hp_runV (As := []) (rest := []) hx hb hml hown hts (c_X9_clear l D cs B V1 (n) (q) _ _ f16) hZ f16 cv_X11_81 rfl rfl ⟨Nat.le_of_ble_eq_true rfl, Nat.le_of_ble_eq_true rfl⟩ rfl hl.1 rfl (Nat.le_of_ble_eq_true rfl) dX11_book_20 ⟨(Nat.le_of_ble_eq_true rfl), (Nat.le_of_ble_eq_true rfl)⟩) hZ (fun V10 n11 _ _ hw12 hZ => ?_)
  obtain ⟨hn14, f17, fr15⟩ := hw12
  have hn14 : n = n11 := hn14.symm
  subst hn14
  refine lv_iload_n hx hb dX11_book_23 rfl (lv_at hl 0 rfl) ?_
  refine lv_if_ne (tgt := 29) hx hb dX11_book_24 (by decide) (fun c18 => ?_) (fun c18 => absurd c18 (by decide))
  refine lv_aload_n hx hb dX11_book_29 rfl (lv_at hl 1 rfl) ?_
  have f19 := (fr15 (a) (hq_lt haq 0)).trans (f9)
  have f19 : V10 (a) = some (.inr (11, [.ref (q), .ref (q + 2), .ref (q + 5), .ref (q + 46), .ref (q + 50), .ref (q + 62), .ref (q + 87), .int (0), .ref (q + 88), .ref (q + 465)])) := f19
  refine hp_get (v := .ref (q + 88)) hx hb hts hown hZ f19 fl_X11_64 rfl dX11_book_30 ?_
  refine lv_astore_n (lv' := [(2, .ref (q + 88)), (1, .int (1)), (0, .ref (a))]) hx hb dX11_book_33 rfl hl (by decide) rfl (fun ls hl => ?_)
  refine lv_aload_n hx hb dX11_book_34 rfl (lv_at hl 2 rfl) ?_
  refine lv_aload_n hx hb dX11_book_35 rfl (lv_at hl 2 rfl) ?_
  refine hp_get (v := .ref (q + 465)) hx hb hts hown hZ f19 fl_X11_68 rfl dX11_book_36 ?_
  refine hp_put hx hb hts hown hZ f19 fp_X11_64 rfl rfl (Nat.le_of_ble_eq_true rfl) dX11_book_39 (fun V20 _ _ e21 o22 hZ => ?_)
  have e21 : V20 (a) = some (.inr (11, [.ref (q), .ref (q + 2), .ref (q + 5), .ref (q + 46), .ref (q + 50), .ref (q + 62), .ref (q + 87), .int (0), .ref (q + 465), .ref (q + 465)])) := e21
  refine lv_aload_n hx hb dX11_book_42 rfl (lv_at hl 2 rfl) ?_
  refine lv_aload_n hx hb dX11_book_43 rfl (lv_at hl 0 rfl) ?_
  refine hp_put hx hb hts hown hZ e21 fp_X11_68 rfl rfl (Nat.le_of_ble_eq_true rfl) dX11_book_44 (fun V23 _ _ e24 o25 hZ => ?_)
  have e24 : V23 (a) = some (.inr (11, [.ref (q), .ref (q + 2), .ref (q + 5), .ref (q + 46), .ref (q + 50), .ref (q + 62), .ref (q + 87), .int (0), .ref (q + 465), .ref (q + 88)])) := e24
  refine lv_aload_n hx hb dX11_book_47 rfl (lv_at hl 2 rfl) ?_
  have f26 := (o25 (q + 46) (hq_lt haq 46).symm).trans ((o22 (q + 46) (hq_lt haq 46).symm).trans ((fr15 (q + 46) (hq_ne q 46 0 (by decide))).trans ((fr6 (q + 46) (hq_ne q 46 2 (by decide)) (hq_ne q 46 465 (by decide))).trans (h_46))))
  have f26 : V23 (q + 46) = some (.inr (8, [.int (0), .ref (q + 47), .ref (q + 48), .ref (q + 49)])) := f26
  have f27 := (o25 (q + 50) (hq_lt haq 50).symm).trans ((o22 (q + 50) (hq_lt haq 50).symm).trans ((fr15 (q + 50) (hq_ne q 50 0 (by decide))).trans ((fr6 (q + 50) (hq_ne q 50 2 (by decide)) (hq_ne q 50 465 (by decide))).trans (h_50))))
  have f27 : V23 (q + 50) = some (.inr (1, [.ref (q + 51), .ref (q + 52), .int (0), .ref (q + 53), .ref (q + 55), .ref (q + 57), .null, .null, .null, .int (0), .ref (q + 59), .ref (q + 60), .ref (q + 61)])) := f27
  have f28 := (o25 (q + 62) (hq_lt haq 62).symm).trans ((o22 (q + 62) (hq_lt haq 62).symm).trans ((fr15 (q + 62) (hq_ne q 62 0 (by decide))).trans ((fr6 (q + 62) (hq_ne q 62 2 (by decide)) (hq_ne q 62 465 (by decide))).trans (h_62))))
  have f28 : V23 (q + 62) = some (.inl (cs 5, 8, .inr (.inr (.inr (.inr (gl)))))) := f28
  have f29 := (o25 (q + 63) (hq_lt haq 63).symm).trans ((o22 (q + 63) (hq_lt haq 63).symm).trans ((fr15 (q + 63) (hq_ne q 63 0 (by decide))).trans ((fr6 (q + 63) (hq_ne q 63 2 (by decide)) (hq_ne q 63 465 (by decide))).trans (ho0))))
  have f29 : V23 (q + 63) = some (.inr (4, [.ref (q + 64), .ref (q + 65)])) := f29
  have f30 := (o25 (q + 64) (hq_lt haq 64).symm).trans ((o22 (q + 64) (hq_lt haq 64).symm).trans ((fr15 (q + 64) (hq_ne q 64 0 (by decide))).trans ((fr6 (q + 64) (hq_ne q 64 2 (by decide)) (hq_ne q 64 465 (by decide))).trans (hm0))))
  have f30 : V23 (q + 64) = some (.inl (cs 1, 60, .inl (gm0))) := f30
  have f31 := (o25 (q + 65) (hq_lt haq 65).symm).trans ((o22 (q + 65) (hq_lt haq 65).symm).trans ((fr15 (q + 65) (hq_ne q 65 0 (by decide))).trans ((fr6 (q + 65) (hq_ne q 65 2 (by decide)) (hq_ne q 65 465 (by decide))).trans (ht0))))
  have f31 : V23 (q + 65) = some (.inl (cs 1, 3, .inl (gt0))) := f31
  have f32 := (o25 (q + 66) (hq_lt haq 66).symm).trans ((o22 (q + 66) (hq_lt haq 66).symm).trans ((fr15 (q + 66) (hq_ne q 66 0 (by decide))).trans ((fr6 (q + 66) (hq_ne q 66 2 (by decide)) (hq_ne q 66 465 (by decide))).trans (ho1))))
  have f32 : V23 (q + 66) = some (.inr (4, [.ref (q + 67), .ref (q + 68)])) := f32
  have f33 := (o25 (q + 67) (hq_lt haq 67).symm).trans ((o22 (q + 67) (hq_lt haq 67).symm).trans ((fr15 (q + 67) (hq_ne q 67 0 (by decide))).trans ((fr6 (q + 67) (hq_ne q 67 2 (by decide)) (hq_ne q 67 465 (by decide))).trans (hm1))))
  have f33 : V23 (q + 67) = some (.inl (cs 1, 60, .inl (gm1))) := f33
  have f34 := (o25 (q + 68) (hq_lt haq 68).symm).trans ((o22 (q + 68) (hq_lt haq 68).symm).trans ((fr15 (q + 68) (hq_ne q 68 0 (by decide))).trans ((fr6 (q + 68) (hq_ne q 68 2 (by decide)) (hq_ne q 68 465 (by decide))).trans (ht1))))
  have f34 : V23 (q + 68) = some (.inl (cs 1, 3, .inl (gt1))) := f34
  have f35 := (o25 (q + 69) (hq_lt haq 69).symm).trans ((o22 (q + 69) (hq_lt haq 69).symm).trans ((fr15 (q + 69) (hq_ne q 69 0 (by decide))).trans ((fr6 (q + 69) (hq_ne q 69 2 (by decide)) (hq_ne q 69 465 (by decide))).trans (ho2))))
  have f35 : V23 (q + 69) = some (.inr (4, [.ref (q + 70), .ref (q + 71)])) := f35
  have f36 := (o25 (q + 70) (hq_lt haq 70).symm).trans ((o22 (q + 70) (hq_lt haq 70).symm).trans ((fr15 (q + 70) (hq_ne q 70 0 (by decide))).trans ((fr6 (q + 70) (hq_ne q 70 2 (by decide)) (hq_ne q 70 465 (by decide))).trans (hm2))))
  have f36 : V23 (q + 70) = some (.inl (cs 1, 60, .inl (gm2))) := f36
  have f37 := (o25 (q + 71) (hq_lt haq 71).symm).trans ((o22 (q + 71) (hq_lt haq 71).symm).trans ((fr15 (q + 71) (hq_ne q 71 0 (by decide))).trans ((fr6 (q + 71) (hq_ne q 71 2 (by decide)) (hq_ne q 71 465 (by decide))).trans (ht2))))
  have f37 : V23 (q + 71) = some (.inl (cs 1, 3, .inl (gt2))) := f37
  have f38 := (o25 (q + 72) (hq_lt haq 72).symm).trans ((o22 (q + 72) (hq_lt haq 72).symm).trans ((fr15 (q + 72) (hq_ne q 72 0 (by decide))).trans ((fr6 (q + 72) (hq_ne q 72 2 (by decide)) (hq_ne q 72 465 (by decide))).trans (ho3))))
  have f38 : V23 (q + 72) = some (.inr (4, [.ref (q + 73), .ref (q + 74)])) := f38
  have f39 := (o25 (q + 73) (hq_lt haq 73).symm).trans ((o22 (q + 73) (hq_lt haq 73).symm).trans ((fr15 (q + 73) (hq_ne q 73 0 (by decide))).trans ((fr6 (q + 73) (hq_ne q 73 2 (by decide)) (hq_ne q 73 465 (by decide))).trans (hm3))))
  have f39 : V23 (q + 73) = some (.inl (cs 1, 60, .inl (gm3))) := f39
  have f40 := (o25 (q + 74) (hq_lt haq 74).symm).trans ((o22 (q + 74) (hq_lt haq 74).symm).trans ((fr15 (q + 74) (hq_ne q 74 0 (by decide))).trans ((fr6 (q + 74) (hq_ne q 74 2 (by decide)) (hq_ne q 74 465 (by decide))).trans (ht3))))
  have f40 : V23 (q + 74) = some (.inl (cs 1, 3, .inl (gt3))) := f40
  have f41 := (o25 (q + 75) (hq_lt haq 75).symm).trans ((o22 (q + 75) (hq_lt haq 75).symm).trans ((fr15 (q + 75) (hq_ne q 75 0 (by decide))).trans ((fr6 (q + 75) (hq_ne q 75 2 (by decide)) (hq_ne q 75 465 (by decide))).trans (ho4))))
  have f41 : V23 (q + 75) = some (.inr (4, [.ref (q + 76), .ref (q + 77)])) := f41
  have f42 := (o25 (q + 76) (hq_lt haq 76).symm).trans ((o22 (q + 76) (hq_lt haq 76).symm).trans ((fr15 (q + 76) (hq_ne q 76 0 (by decide))).trans ((fr6 (q + 76) (hq_ne q 76 2 (by decide)) (hq_ne q 76 465 (by decide))).trans (hm4))))
  have f42 : V23 (q + 76) = some (.inl (cs 1, 60, .inl (gm4))) := f42
  have f43 := (o25 (q + 77) (hq_lt haq 77).symm).trans ((o22 (q + 77) (hq_lt haq 77).symm).trans ((fr15 (q + 77) (hq_ne q 77 0 (by decide))).trans ((fr6 (q + 77) (hq_ne q 77 2 (by decide)) (hq_ne q 77 465 (by decide))).trans (ht4))))
  have f43 : V23 (q + 77) = some (.inl (cs 1, 3, .inl (gt4))) := f43
  have f44 := (o25 (q + 78) (hq_lt haq 78).symm).trans ((o22 (q + 78) (hq_lt haq 78).symm).trans ((fr15 (q + 78) (hq_ne q 78 0 (by decide))).trans ((fr6 (q + 78) (hq_ne q 78 2 (by decide)) (hq_ne q 78 465 (by decide))).trans (ho5))))
  have f44 : V23 (q + 78) = some (.inr (4, [.ref (q + 79), .ref (q + 80)])) := f44
  have f45 := (o25 (q + 79) (hq_lt haq 79).symm).trans ((o22 (q + 79) (hq_lt haq 79).symm).trans ((fr15 (q + 79) (hq_ne q 79 0 (by decide))).trans ((fr6 (q + 79) (hq_ne q 79 2 (by decide)) (hq_ne q 79 465 (by decide))).trans (hm5))))
  have f45 : V23 (q + 79) = some (.inl (cs 1, 60, .inl (gm5))) := f45
  have f46 := (o25 (q + 80) (hq_lt haq 80).symm).trans ((o22 (q + 80) (hq_lt haq 80).symm).trans ((fr15 (q + 80) (hq_ne q 80 0 (by decide))).trans ((fr6 (q + 80) (hq_ne q 80 2 (by decide)) (hq_ne q 80 465 (by decide))).trans (ht5))))
  have f46 : V23 (q + 80) = some (.inl (cs 1, 3, .inl (gt5))) := f46
  have f47 := (o25 (q + 81) (hq_lt haq 81).symm).trans ((o22 (q + 81) (hq_lt haq 81).symm).trans ((fr15 (q + 81) (hq_ne q 81 0 (by decide))).trans ((fr6 (q + 81) (hq_ne q 81 2 (by decide)) (hq_ne q 81 465 (by decide))).trans (ho6))))
  have f47 : V23 (q + 81) = some (.inr (4, [.ref (q + 82), .ref (q + 83)])) := f47
  have f48 := (o25 (q + 82) (hq_lt haq 82).symm).trans ((o22 (q + 82) (hq_lt haq 82).symm).trans ((fr15 (q + 82) (hq_ne q 82 0 (by decide))).trans ((fr6 (q + 82) (hq_ne q 82 2 (by decide)) (hq_ne q 82 465 (by decide))).trans (hm6))))
  have f48 : V23 (q + 82) = some (.inl (cs 1, 60, .inl (gm6))) := f48
  have f49 := (o25 (q + 83) (hq_lt haq 83).symm).trans ((o22 (q + 83) (hq_lt haq 83).symm).trans ((fr15 (q + 83) (hq_ne q 83 0 (by decide))).trans ((fr6 (q + 83) (hq_ne q 83 2 (by decide)) (hq_ne q 83 465 (by decide))).trans (ht6))))
  have f49 : V23 (q + 83) = some (.inl (cs 1, 3, .inl (gt6))) := f49
  have f50 := (o25 (q + 84) (hq_lt haq 84).symm).trans ((o22 (q + 84) (hq_lt haq 84).symm).trans ((fr15 (q + 84) (hq_ne q 84 0 (by decide))).trans ((fr6 (q + 84) (hq_ne q 84 2 (by decide)) (hq_ne q 84 465 (by decide))).trans (ho7))))
  have f50 : V23 (q + 84) = some (.inr (4, [.ref (q + 85), .ref (q + 86)])) := f50
  have f51 := (o25 (q + 85) (hq_lt haq 85).symm).trans ((o22 (q + 85) (hq_lt haq 85).symm).trans ((fr15 (q + 85) (hq_ne q 85 0 (by decide))).trans ((fr6 (q + 85) (hq_ne q 85 2 (by decide)) (hq_ne q 85 465 (by decide))).trans (hm7))))
  have f51 : V23 (q + 85) = some (.inl (cs 1, 60, .inl (gm7))) := f51
  have f52 := (o25 (q + 86) (hq_lt haq 86).symm).trans ((o22 (q + 86) (hq_lt haq 86).symm).trans ((fr15 (q + 86) (hq_ne q 86 0 (by decide))).trans ((fr6 (q + 86) (hq_ne q 86 2 (by decide)) (hq_ne q 86 465 (by decide))).trans (ht7))))
  have f52 : V23 (q + 86) = some (.inl (cs 1, 3, .inl (gt7))) := f52
  have hR53 : fx_R cs q V23 := ⟨f26, f27, ⟨_, f28, gl0, gl1, gl2, gl3, gl4, gl5, gl6, gl7⟩, ⟨f29, ⟨_, f30⟩, ⟨_, f31⟩⟩, ⟨f32, ⟨_, f33⟩, ⟨_, f34⟩⟩, ⟨f35, ⟨_, f36⟩, ⟨_, f37⟩⟩, ⟨f38, ⟨_, f39⟩, ⟨_, f40⟩⟩, ⟨f41, ⟨_, f42⟩, ⟨_, f43⟩⟩, ⟨f44, ⟨_, f45⟩, ⟨_, f46⟩⟩, ⟨f47, ⟨_, f48⟩, ⟨_, f49⟩⟩, ⟨f50, ⟨_, f51⟩, ⟨_, f52⟩⟩⟩
  refine hp_callv (hp_runV (As := []) (rest := []) hx hb hml hown hts (c_X11_forgetAll l D cs B V23 (n) a q (q + 465) (q + 88) haq e24 hR53) hZ e24 cv_X11_84 rfl rfl ⟨Nat.le_of_ble_eq_true rfl, Nat.le_of_ble_eq_true rfl⟩ rfl hl.1 rfl (Nat.le_of_ble_eq_true rfl) dX11_book_48 ⟨(Nat.le_of_ble_eq_true rfl), (Nat.le_of_ble_eq_true rfl)⟩) hZ (fun V54 n55 _ _ hw56 hZ => ?_)
  obtain ⟨hn57, f58, fr59⟩ := hw56
  have hn57 : n = n55 := hn57.symm
  subst hn57
  refine lv_aload_n hx hb dX11_book_51 rfl (lv_at hl 2 rfl) ?_
  refine hp_get (v := .ref (q + 465)) hx hb hts hown hZ f58 fl_X11_64 rfl dX11_book_52 ?_
  have f60 := (fr59 (q + 465) (by omega)).trans ((o25 (q + 465) (hq_lt haq 465).symm).trans ((o22 (q + 465) (hq_lt haq 465).symm).trans ((fr15 (q + 465) (hq_ne q 465 0 (by decide))).trans (f8))))
  have f60 : V54 (q + 465) = some (.inr (0, [.ref (q + 466), .int (0), .ref (q + 479), .ref (q + 540), .int (0), .ref (q + 541), .int (0)])) := f60
  refine hp_get (v := .int (0)) hx hb hts hown hZ f60 fl_X11_87 rfl dX11_book_55 ?_
  exact hp_iret hx hb hr hlocks hZ ⟨rfl, rfl, fun x hxq => (fr59 (x) (by omega)).trans ((o25 (x) (hq_gea hxq haq)).trans ((o22 (x) (hq_gea hxq haq)).trans ((fr15 (x) (hq_ge hxq 0 (by decide))).trans (fr6 (x) (hq_ge hxq 2 (by decide)) (hq_ge hxq 465 (by decide))))))⟩ dX11_book_58

set_option maxHeartbeats 4000000 in
set_option maxRecDepth 100000 in
theorem k_fault (l : Launch) (D : va_G) (cs : Nat → ClassId) (B : Nat) (V : hp_V) (n : Nat) (a q : Nat) (haq : a < q) (hF : fx_X cs a q V) (k : Int32) : hp_M l yX11_fault cX11_fault 2 (some .int) ({ frames := 1, cells := 0, slots := 0, locals := 21 }) D cs B V n [.ref (a), .int (k)] (hp_QI D cs B (fun r V' n' => ((k = 0 → r = 0) ∧ (k ≠ 0 → r = -1)) ∧ n' = n ∧ ∀ x, q + 842 ≤ x → V' x = V x)) 0 (0) := by
  refine hp_walk (R0 := RX11) (by decide) rfl ?_ (Nat.le_of_ble_eq_true rfl)
  intro p e s m below meth c ls hx hb hr hts hown hlocks hin hml hZ hl
  have hl : lv_has ls 2 [(0, .ref (a)), (1, .int (k))] := hl
  obtain ⟨h_a, h_0, h_1, h_2, h_46, h_50, ⟨gl, h_62, gl0, gl1, gl2, gl3, gl4, gl5, gl6, gl7⟩, -, -, -, -, -, -, -, -, h_88, h_465⟩ := hF
  refine lv_iload_n hx hb dX11_fault_0 rfl (lv_at hl 1 rfl) ?_
  rcases Classical.em (k = 0) with h1 | h1
  · refine lv_lookup (off := 27) (tgt := 28) hx hb dX11_fault_1 (by decide) (by rw [h1]; decide) (by decide) ?_
    refine lv_aload_n hx hb dX11_fault_28 rfl (lv_at hl 0 rfl) ?_
    refine hp_get (v := .ref (q + 2)) hx hb hts hown hZ h_a fl_X11_21 rfl dX11_fault_29 ?_
    refine hp_get (v := .int (0)) hx hb hts hown hZ h_2 fl_X11_90 rfl dX11_fault_32 ?_
    exact hp_iret hx hb hr hlocks hZ ⟨⟨fun _ => rfl, fun h9 => absurd h1 h9⟩, rfl, fun x hxq => rfl⟩ dX11_fault_35
  ·
    rcases Classical.em (k = 1) with h2 | h2
    · refine lv_lookup (off := 35) (tgt := 36) hx hb dX11_fault_1 (by decide) (by rw [h2]; decide) (by decide) ?_
      refine lv_aload_n hx hb dX11_fault_36 rfl (lv_at hl 0 rfl) ?_
      refine hp_get (v := .ref (q + 2)) hx hb hts hown hZ h_a fl_X11_21 rfl dX11_fault_37 ?_
      refine hp_get (v := .int (-1)) hx hb hts hown hZ h_2 fl_X11_93 rfl dX11_fault_40 ?_
      exact hp_iret hx hb hr hlocks hZ ⟨⟨fun h9 => absurd h9 h1, fun _ => rfl⟩, rfl, fun x hxq => rfl⟩ dX11_fault_43
    ·
      refine lv_lookup (off := 43) (tgt := 44) hx hb dX11_fault_1 (by decide) ((lv_osw h1 (by decide)).trans ((lv_osw h2 (by decide)).trans (rfl))) (by decide) ?_
      refine lv_iconst (v := -1) hx hb dX11_fault_44 (by decide) ?_
      exact hp_iret hx hb hr hlocks hZ ⟨⟨fun h9 => absurd h9 h1, fun _ => rfl⟩, rfl, fun x hxq => rfl⟩ dX11_fault_45

set_option maxHeartbeats 4000000 in
set_option maxRecDepth 100000 in
theorem k_verb (l : Launch) (D : va_G) (cs : Nat → ClassId) (B : Nat) (V : hp_V) (n : Nat) (a q : Nat) (haq : a < q) (hF : fx_X cs a q V) (k u : Int32) : hp_M l yX11_verb cX11_verb 3 (some .int) ({ frames := 1, cells := 0, slots := 0, locals := 21 }) D cs B V n [.ref (a), .int (k), .int (u)] (hp_QI D cs B (fun r V' n' => (r = -1) ∧ n' = n ∧ ∀ x, q + 842 ≤ x → V' x = V x)) 0 (0) := by
  refine hp_walk (R0 := RX11) (by decide) rfl ?_ (Nat.le_of_ble_eq_true rfl)
  intro p e s m below meth c ls hx hb hr hts hown hlocks hin hml hZ hl
  have hl : lv_has ls 3 [(0, .ref (a)), (1, .int (k)), (2, .int (u))] := hl
  obtain ⟨h_a, h_0, h_1, h_2, h_46, h_50, ⟨gl, h_62, gl0, gl1, gl2, gl3, gl4, gl5, gl6, gl7⟩, -, -, -, -, -, -, -, -, h_88, h_465⟩ := hF
  refine lv_iload_n hx hb dX11_verb_0 rfl (lv_at hl 1 rfl) ?_
  refine lv_if_lt (tgt := 15) hx hb dX11_verb_1 (by decide) (fun c1 => ?_) (fun c1 => ?_)
  · refine lv_iconst (v := -1) hx hb dX11_verb_15 (by decide) ?_
    exact hp_iret hx hb hr hlocks hZ ⟨rfl, rfl, fun x hxq => rfl⟩ dX11_verb_16
  · refine lv_iload_n hx hb dX11_verb_4 rfl (lv_at hl 1 rfl) ?_
    refine lv_aload_n hx hb dX11_verb_5 rfl (lv_at hl 0 rfl) ?_
    refine hp_get (v := .ref (q + 88)) hx hb hts hown hZ h_a fl_X11_64 rfl dX11_verb_6 ?_
    refine hp_get (v := .int (0)) hx hb hts hown hZ h_88 fl_X11_96 rfl dX11_verb_9 ?_
    refine lv_icmp_lt (tgt := 17) hx hb dX11_verb_12 (by decide) (fun c2 => absurd c2 (c1)) (fun c2 => ?_)
    refine lv_iconst (v := -1) hx hb dX11_verb_15 (by decide) ?_
    exact hp_iret hx hb hr hlocks hZ ⟨rfl, rfl, fun x hxq => rfl⟩ dX11_verb_16

set_option maxHeartbeats 4000000 in
set_option maxRecDepth 100000 in
theorem k_line (l : Launch) (D : va_G) (cs : Nat → ClassId) (B : Nat) (V : hp_V) (n : Nat) (a q : Nat) (haq : a < q) (hF : fx_X cs a q V) (k u : Int32) : hp_M l yX11_line cX11_line 4 (some .int) ({ frames := 1, cells := 0, slots := 0, locals := 21 }) D cs B V n [.ref (a), .int (k), .int (u)] (hp_QI D cs B (fun r V' n' => (r = -9) ∧ n' = n ∧ ∀ x, q + 842 ≤ x → V' x = V x)) 0 (0) := by
  refine hp_walk (R0 := RX11) (by decide) rfl ?_ (Nat.le_of_ble_eq_true rfl)
  intro p e s m below meth c ls hx hb hr hts hown hlocks hin hml hZ hl
  have hl : lv_has ls 4 [(0, .ref (a)), (1, .int (k)), (2, .int (u))] := hl
  obtain ⟨h_a, h_0, h_1, h_2, h_46, h_50, ⟨gl, h_62, gl0, gl1, gl2, gl3, gl4, gl5, gl6, gl7⟩, -, -, -, -, -, -, -, -, h_88, h_465⟩ := hF
  refine lv_iload_n hx hb dX11_line_0 rfl (lv_at hl 1 rfl) ?_
  refine lv_if_lt (tgt := 15) hx hb dX11_line_1 (by decide) (fun c1 => ?_) (fun c1 => ?_)
  · refine lv_bipush (v := -9) hx hb dX11_line_15 (by decide) ?_
    exact hp_iret hx hb hr hlocks hZ ⟨rfl, rfl, fun x hxq => rfl⟩ dX11_line_17
  · refine lv_iload_n hx hb dX11_line_4 rfl (lv_at hl 1 rfl) ?_
    refine lv_aload_n hx hb dX11_line_5 rfl (lv_at hl 0 rfl) ?_
    refine hp_get (v := .ref (q + 88)) hx hb hts hown hZ h_a fl_X11_64 rfl dX11_line_6 ?_
    refine hp_get (v := .int (0)) hx hb hts hown hZ h_88 fl_X11_87 rfl dX11_line_9 ?_
    refine lv_icmp_lt (tgt := 18) hx hb dX11_line_12 (by decide) (fun c2 => absurd c2 (c1)) (fun c2 => ?_)
    refine lv_bipush (v := -9) hx hb dX11_line_15 (by decide) ?_
    exact hp_iret hx hb hr hlocks hZ ⟨rfl, rfl, fun x hxq => rfl⟩ dX11_line_17

set_option maxHeartbeats 4000000 in
set_option maxRecDepth 100000 in
theorem k_forms (l : Launch) (D : va_G) (cs : Nat → ClassId) (B : Nat) (V : hp_V) (n : Nat) (a q : Nat) (haq : a < q) (hF : fx_X cs a q V) (u v w : Int32) : hp_M l yX11_forms cX11_forms 4 (some .int) ({ frames := 2, cells := 0, slots := 0, locals := 44 }) D cs B V n [.ref (a), .int (u), .int (v), .int (w)] (hp_QI D cs B (fun r V' n' => (r = -2) ∧ n' = n ∧ ∀ x, q + 842 ≤ x → V' x = V x)) 0 (0) := by
  refine hp_walk (R0 := RX11) (by decide) rfl ?_ (Nat.le_of_ble_eq_true rfl)
  intro p e s m below meth c ls hx hb hr hts hown hlocks hin hml hZ hl
  have hl : lv_has ls 4 [(0, .ref (a)), (1, .int (u)), (2, .int (v)), (3, .int (w))] := hl
  obtain ⟨h_a, h_0, h_1, h_2, h_46, h_50, ⟨gl, h_62, gl0, gl1, gl2, gl3, gl4, gl5, gl6, gl7⟩, -, -, -, -, -, -, -, -, h_88, h_465⟩ := hF
  refine lv_aload_n hx hb dX11_forms_0 rfl (lv_at hl 0 rfl) ?_
  refine lv_iload_n hx hb dX11_forms_1 rfl (lv_at hl 1 rfl) ?_
  refine lv_iload_n hx hb dX11_forms_2 rfl (lv_at hl 2 rfl) ?_
  refine lv_iload_n hx hb dX11_forms_3 rfl (lv_at hl 3 rfl) ?_
  refine hp_calli (hp_runV (As := [.int (u), .int (v), .int (w)]) (rest := []) hx hb hml hown hts (c_X11_isPlace0 l D cs B V (n) (a) q _ _ _ h_a h_88) hZ h_a cv_X11_141 rfl rfl ⟨Nat.le_of_ble_eq_true rfl, Nat.le_of_ble_eq_true rfl⟩ rfl hl.1 rfl (Nat.le_of_ble_eq_true rfl) dX11_forms_4 ⟨(Nat.le_of_ble_eq_true rfl), (Nat.le_of_ble_eq_true rfl)⟩) hZ (fun r4 V1 n2 _ _ hw3 hZ => ?_)
  obtain ⟨rfl, rfl, rfl⟩ := hw3
  refine lv_if_ne (tgt := 13) hx hb dX11_forms_7 (by decide) (fun c5 => absurd (by decide) c5) (fun c5 => ?_)
  refine lv_bipush (v := -2) hx hb dX11_forms_10 (by decide) ?_
  exact hp_iret hx hb hr hlocks hZ ⟨rfl, rfl, fun x hxq => rfl⟩ dX11_forms_12

set_option maxHeartbeats 4000000 in
set_option maxRecDepth 100000 in
theorem k_form (l : Launch) (D : va_G) (cs : Nat → ClassId) (B : Nat) (V : hp_V) (n : Nat) (a q : Nat) (haq : a < q) (hF : fx_X cs a q V) (u v w y z : Int32) : hp_M l yX11_form cX11_form 7 (some .int) ({ frames := 3, cells := 0, slots := 0, locals := 68 }) D cs B V n [.ref (a), .int (u), .int (v), .int (w), .int (y), .int (z)] (hp_QI D cs B (fun r V' n' => (r = -1) ∧ n' = n ∧ ∀ x, q + 842 ≤ x → V' x = V x)) 0 (0) := by
  refine hp_walk (R0 := RX11) (by decide) rfl ?_ (Nat.le_of_ble_eq_true rfl)
  intro p e s m below meth c ls hx hb hr hts hown hlocks hin hml hZ hl
  have hl : lv_has ls 7 [(0, .ref (a)), (1, .int (u)), (2, .int (v)), (3, .int (w)), (4, .int (y)), (5, .int (z))] := hl
  obtain ⟨h_a, h_0, h_1, h_2, h_46, h_50, ⟨gl, h_62, gl0, gl1, gl2, gl3, gl4, gl5, gl6, gl7⟩, -, -, -, -, -, -, -, -, h_88, h_465⟩ := hF
  refine lv_aload_n hx hb dX11_form_0 rfl (lv_at hl 0 rfl) ?_
  refine lv_iload_n hx hb dX11_form_1 rfl (lv_at hl 1 rfl) ?_
  refine lv_iload_n hx hb dX11_form_2 rfl (lv_at hl 2 rfl) ?_
  refine lv_iload_n hx hb dX11_form_3 rfl (lv_at hl 3 rfl) ?_
  refine lv_iload hx hb dX11_form_4 (lv_at hl 4 rfl) ?_
  refine hp_callq (hp_runV (As := [.int (u), .int (v), .int (w), .int (y)]) (rest := []) hx hb hml hown hts (c_X11_formAt0 l D cs B V (n) (a) q _ _ _ _ h_a h_88) hZ h_a cv_X11_156 rfl rfl ⟨Nat.le_of_ble_eq_true rfl, Nat.le_of_ble_eq_true rfl⟩ rfl hl.1 rfl (Nat.le_of_ble_eq_true rfl) dX11_form_6 ⟨(Nat.le_of_ble_eq_true rfl), (Nat.le_of_ble_eq_true rfl)⟩) hZ (fun r4 V1 n2 _ _ hw3 hZ => ?_)
  obtain ⟨rfl, rfl, rfl⟩ := hw3
  refine W.eq (g2 := F0 m 9 ls [.null]) rfl ?_
  refine lv_astoreN (lv' := [(6, .null), (0, .ref (a)), (1, .int (u)), (2, .int (v)), (3, .int (w)), (4, .int (y)), (5, .int (z))]) hx hb dX11_form_9 hl (by decide) rfl (fun ls hl => ?_)
  refine lv_aloadN hx hb dX11_form_11 (lv_at hl 0 rfl) ?_
  refine lv_ifnonnullN hx hb dX11_form_13 ?_
  refine lv_iconst (v := -1) hx hb dX11_form_16 (by decide) ?_
  refine lv_goto (tgt := 30) hx hb dX11_form_17 (by decide) ?_
  exact hp_iret hx hb hr hlocks hZ ⟨rfl, rfl, fun x hxq => rfl⟩ dX11_form_30

set_option maxHeartbeats 4000000 in
set_option maxRecDepth 100000 in
theorem k_row (l : Launch) (D : va_G) (cs : Nat → ClassId) (B : Nat) (V : hp_V) (n : Nat) (a q : Nat) (haq : a < q) (hF : fx_X cs a q V) (u v w y z : Int32) : hp_M l yX11_row cX11_row 7 (some .int) ({ frames := 3, cells := 0, slots := 0, locals := 68 }) D cs B V n [.ref (a), .int (u), .int (v), .int (w), .int (y), .int (z)] (hp_QI D cs B (fun r V' n' => (r = -1) ∧ n' = n ∧ ∀ x, q + 842 ≤ x → V' x = V x)) 0 (0) := by
  refine hp_walk (R0 := RX11) (by decide) rfl ?_ (Nat.le_of_ble_eq_true rfl)
  intro p e s m below meth c ls hx hb hr hts hown hlocks hin hml hZ hl
  have hl : lv_has ls 7 [(0, .ref (a)), (1, .int (u)), (2, .int (v)), (3, .int (w)), (4, .int (y)), (5, .int (z))] := hl
  obtain ⟨h_a, h_0, h_1, h_2, h_46, h_50, ⟨gl, h_62, gl0, gl1, gl2, gl3, gl4, gl5, gl6, gl7⟩, -, -, -, -, -, -, -, -, h_88, h_465⟩ := hF
  refine lv_aload_n hx hb dX11_row_0 rfl (lv_at hl 0 rfl) ?_
  refine lv_iload_n hx hb dX11_row_1 rfl (lv_at hl 1 rfl) ?_
  refine lv_iload_n hx hb dX11_row_2 rfl (lv_at hl 2 rfl) ?_
  refine lv_iload_n hx hb dX11_row_3 rfl (lv_at hl 3 rfl) ?_
  refine lv_iload hx hb dX11_row_4 (lv_at hl 4 rfl) ?_
  refine hp_callq (hp_runV (As := [.int (u), .int (v), .int (w), .int (y)]) (rest := []) hx hb hml hown hts (c_X11_formAt0 l D cs B V (n) (a) q _ _ _ _ h_a h_88) hZ h_a cv_X11_156 rfl rfl ⟨Nat.le_of_ble_eq_true rfl, Nat.le_of_ble_eq_true rfl⟩ rfl hl.1 rfl (Nat.le_of_ble_eq_true rfl) dX11_row_6 ⟨(Nat.le_of_ble_eq_true rfl), (Nat.le_of_ble_eq_true rfl)⟩) hZ (fun r4 V1 n2 _ _ hw3 hZ => ?_)
  obtain ⟨rfl, rfl, rfl⟩ := hw3
  refine W.eq (g2 := F0 m 9 ls [.null]) rfl ?_
  refine lv_astoreN (lv' := [(6, .null), (0, .ref (a)), (1, .int (u)), (2, .int (v)), (3, .int (w)), (4, .int (y)), (5, .int (z))]) hx hb dX11_row_9 hl (by decide) rfl (fun ls hl => ?_)
  refine lv_aloadN hx hb dX11_row_11 (lv_at hl 0 rfl) ?_
  refine lv_ifnonnullN hx hb dX11_row_13 ?_
  refine lv_iconst (v := -1) hx hb dX11_row_16 (by decide) ?_
  refine lv_goto (tgt := 27) hx hb dX11_row_17 (by decide) ?_
  exact hp_iret hx hb hr hlocks hZ ⟨rfl, rfl, fun x hxq => rfl⟩ dX11_row_27

set_option maxHeartbeats 4000000 in
set_option maxRecDepth 100000 in
theorem k_rivals (l : Launch) (D : va_G) (cs : Nat → ClassId) (B : Nat) (V : hp_V) (n : Nat) (a q : Nat) (haq : a < q) (hF : fx_X cs a q V) (u v w : Int32) : hp_M l yX11_rivals cX11_rivals 6 (some .int) ({ frames := 2, cells := 0, slots := 0, locals := 44 }) D cs B V n [.ref (a), .int (u), .int (v), .int (w)] (hp_QI D cs B (fun r V' n' => (r = -2) ∧ n' = n ∧ ∀ x, q + 842 ≤ x → V' x = V x)) 0 (0) := by
  refine hp_walk (R0 := RX11) (by decide) rfl ?_ (Nat.le_of_ble_eq_true rfl)
  intro p e s m below meth c ls hx hb hr hts hown hlocks hin hml hZ hl
  have hl : lv_has ls 6 [(0, .ref (a)), (1, .int (u)), (2, .int (v)), (3, .int (w))] := hl
  obtain ⟨h_a, h_0, h_1, h_2, h_46, h_50, ⟨gl, h_62, gl0, gl1, gl2, gl3, gl4, gl5, gl6, gl7⟩, -, -, -, -, -, -, -, -, h_88, h_465⟩ := hF
  refine lv_aload_n hx hb dX11_rivals_0 rfl (lv_at hl 0 rfl) ?_
  refine lv_iload_n hx hb dX11_rivals_1 rfl (lv_at hl 1 rfl) ?_
  refine lv_iload_n hx hb dX11_rivals_2 rfl (lv_at hl 2 rfl) ?_
  refine lv_iload_n hx hb dX11_rivals_3 rfl (lv_at hl 3 rfl) ?_
  refine hp_calli (hp_runV (As := [.int (u), .int (v), .int (w)]) (rest := []) hx hb hml hown hts (c_X11_isPlace0 l D cs B V (n) (a) q _ _ _ h_a h_88) hZ h_a cv_X11_141 rfl rfl ⟨Nat.le_of_ble_eq_true rfl, Nat.le_of_ble_eq_true rfl⟩ rfl hl.1 rfl (Nat.le_of_ble_eq_true rfl) dX11_rivals_4 ⟨(Nat.le_of_ble_eq_true rfl), (Nat.le_of_ble_eq_true rfl)⟩) hZ (fun r4 V1 n2 _ _ hw3 hZ => ?_)
  obtain ⟨rfl, rfl, rfl⟩ := hw3
  refine lv_if_ne (tgt := 13) hx hb dX11_rivals_7 (by decide) (fun c5 => absurd (by decide) c5) (fun c5 => ?_)
  refine lv_bipush (v := -2) hx hb dX11_rivals_10 (by decide) ?_
  exact hp_iret hx hb hr hlocks hZ ⟨rfl, rfl, fun x hxq => rfl⟩ dX11_rivals_12

set_option maxHeartbeats 4000000 in
set_option maxRecDepth 100000 in
theorem k_read (l : Launch) (D : va_G) (cs : Nat → ClassId) (B : Nat) (V : hp_V) (n : Nat) (a q : Nat) (haq : a < q) (hF : fx_X cs a q V) : hp_M l yX11_read cX11_read 5 (some .int) ({ frames := 3, cells := 0, slots := 0, locals := 64 }) D cs B V n [.ref (a)] (hp_QI D cs B (fun r V' n' => (r = 0) ∧ n' = n ∧ ∀ x, q + 842 ≤ x → V' x = V x)) 0 (0) := by
  refine hp_walk (R0 := RX11) (by decide) rfl ?_ (Nat.le_of_ble_eq_true rfl)
  intro p e s m below meth c ls hx hb hr hts hown hlocks hin hml hZ hl
  have hl : lv_has ls 5 [(0, .ref (a))] := hl
  obtain ⟨h_a, h_0, h_1, h_2, h_46, h_50, ⟨gl, h_62, gl0, gl1, gl2, gl3, gl4, gl5, gl6, gl7⟩, -, -, -, -, -, -, -, -, h_88, h_465⟩ := hF
  refine lv_aload_n hx hb dX11_read_0 rfl (lv_at hl 0 rfl) ?_
  refine hp_get (v := .ref (q + 46)) hx hb hts hown hZ h_a fl_X11_35 rfl dX11_read_1 ?_
  refine lv_aload_n hx hb dX11_read_4 rfl (lv_at hl 0 rfl) ?_
  refine hp_get (v := .ref (q + 88)) hx hb hts hown hZ h_a fl_X11_64 rfl dX11_read_5 ?_
  refine lv_aload_n hx hb dX11_read_8 rfl (lv_at hl 0 rfl) ?_
  refine hp_get (v := .ref (q + 5)) hx hb hts hown hZ h_a fl_X11_28 rfl dX11_read_9 ?_
  refine hp_callv (hp_runV (As := [.ref (q + 88), .ref (q + 5)]) (rest := []) hx hb hml hown hts (c_X8_look0 l D cs B V (n) (q + 46) (q + 88) (q + 5) _ _ _ _ _ _ _ h_46 h_88) hZ h_46 cv_X11_172 rfl rfl ⟨Nat.le_of_ble_eq_true rfl, Nat.le_of_ble_eq_true rfl⟩ rfl hl.1 rfl (Nat.le_of_ble_eq_true rfl) dX11_read_12 ⟨(Nat.le_of_ble_eq_true rfl), (Nat.le_of_ble_eq_true rfl)⟩) hZ (fun V1 n2 _ _ hw3 hZ => ?_)
  obtain ⟨hn5, f7, fr6⟩ := hw3
  have hn5 : n = n2 := hn5.symm
  subst hn5
  refine lv_aload_n hx hb dX11_read_15 rfl (lv_at hl 0 rfl) ?_
  have f8 := (fr6 (a) (hq_lt haq 46)).trans (h_a)
  have f8 : V1 (a) = some (.inr (11, [.ref (q), .ref (q + 2), .ref (q + 5), .ref (q + 46), .ref (q + 50), .ref (q + 62), .ref (q + 87), .int (0), .ref (q + 88), .ref (q + 465)])) := f8
  refine hp_get (v := .ref (q)) hx hb hts hown hZ f8 fl_X11_14 rfl dX11_read_16 ?_
  have f13 := (fr6 (q) (hq_ne q 0 46 (by decide))).trans (h_0)
  have f13 : V1 (q) = some (.inr (9, [.ref (q + 1), .int (0)])) := f13
  refine hp_calll (hp_runV (As := []) (rest := []) hx hb hml hown hts (c_X9_mark0 l D cs B V1 (n) (q) _ f13) hZ f13 cv_X11_176 rfl rfl ⟨Nat.le_of_ble_eq_true rfl, Nat.le_of_ble_eq_true rfl⟩ rfl hl.1 rfl (Nat.le_of_ble_eq_true rfl) dX11_read_19 ⟨(Nat.le_of_ble_eq_true rfl), (Nat.le_of_ble_eq_true rfl)⟩) hZ (fun r12 V9 n10 _ _ hw11 hZ => ?_)
  obtain ⟨rfl, rfl, h14⟩ := hw11
  refine lv_lstore_n (lv' := [(1, .long (r12)), (0, .ref (a))]) hx hb dX11_read_22 rfl hl (by decide) rfl (fun ls hl => ?_)
  refine lv_iconst (v := 0) hx hb dX11_read_23 (by decide) ?_
  refine lv_istore_n (lv' := [(3, .int (0)), (1, .long (r12)), (0, .ref (a))]) hx hb dX11_read_24 rfl hl (by decide) rfl (fun ls hl => ?_)
  refine lv_aload_n hx hb dX11_read_25 rfl (lv_at hl 2 rfl) ?_
  refine lv_iconst (v := 0) hx hb dX11_read_26 (by decide) ?_
  refine hp_put hx hb hts hown hZ f8 fp_X11_57 rfl rfl (Nat.le_of_ble_eq_true rfl) dX11_read_27 (fun V15 _ _ e16 o17 hZ => ?_)
  have e16 : V15 (a) = some (.inr (11, [.ref (q), .ref (q + 2), .ref (q + 5), .ref (q + 46), .ref (q + 50), .ref (q + 62), .ref (q + 87), .int (0), .ref (q + 88), .ref (q + 465)])) := e16
  refine lv_iconst (v := 0) hx hb dX11_read_30 (by decide) ?_
  refine lv_istore (lv' := [(4, .int (0)), (3, .int (0)), (1, .long (r12)), (0, .ref (a))]) hx hb dX11_read_31 hl (by decide) rfl (fun ls hl => ?_)
  refine lv_iload hx hb dX11_read_33 (lv_at hl 0 rfl) ?_
  refine lv_aload_n hx hb dX11_read_35 rfl (lv_at hl 3 rfl) ?_
  refine hp_get (v := .ref (q + 88)) hx hb hts hown hZ e16 fl_X11_64 rfl dX11_read_36 ?_
  have f22 := (o17 (q + 88) (hq_lt haq 88).symm).trans ((fr6 (q + 88) (hq_ne q 88 46 (by decide))).trans (h_88))
  have f22 : V15 (q + 88) = some (.inr (0, [.ref (q + 89), .int (0), .ref (q + 102), .ref (q + 163), .int (0), .ref (q + 164), .int (0)])) := f22
  refine hp_calli (hp_runV (As := []) (rest := [.int (0)]) hx hb hml hown hts (c_X0_ps0 l D cs B V15 (n) (q + 88) _ _ _ _ f22) hZ f22 cv_X11_180 rfl rfl ⟨Nat.le_of_ble_eq_true rfl, Nat.le_of_ble_eq_true rfl⟩ rfl hl.1 rfl (Nat.le_of_ble_eq_true rfl) dX11_read_39 ⟨(Nat.le_of_ble_eq_true rfl), (Nat.le_of_ble_eq_true rfl)⟩) hZ (fun r21 V18 n19 _ _ hw20 hZ => ?_)
  obtain ⟨rfl, rfl, rfl⟩ := hw20
  refine lv_icmp_ge (tgt := 82) hx hb dX11_read_42 (by decide) (fun c23 => ?_) (fun c23 => absurd (by decide) c23)
  refine lv_aload_n hx hb dX11_read_82 rfl (lv_at hl 3 rfl) ?_
  refine hp_get (v := .ref (q)) hx hb hts hown hZ e16 fl_X11_14 rfl dX11_read_83 ?_
  have f30 := (o17 (q) (hq_lt haq 0).symm).trans (f13)
  have f30 : V15 (q) = some (.inr (9, [.ref (q + 1), .int (0)])) := f30
  refine hp_callv (hp_runV (As := []) (rest := []) hx hb hml hown hts (c_X9_clear l D cs B V15 (n) (q) _ _ f30) hZ f30 cv_X11_81 rfl rfl ⟨Nat.le_of_ble_eq_true rfl, Nat.le_of_ble_eq_true rfl⟩ rfl hl.1 rfl (Nat.le_of_ble_eq_true rfl) dX11_read_86 ⟨(Nat.le_of_ble_eq_true rfl), (Nat.le_of_ble_eq_true rfl)⟩) hZ (fun V24 n25 _ _ hw26 hZ => ?_)
  obtain ⟨hn28, f31, fr29⟩ := hw26
  have hn28 : n = n25 := hn28.symm
  subst hn28
  refine lv_iload_n hx hb dX11_read_89 rfl (lv_at hl 1 rfl) ?_
  exact hp_iret hx hb hr hlocks hZ ⟨rfl, rfl, fun x hxq => (fr29 (x) (hq_ge hxq 0 (by decide))).trans ((o17 (x) (hq_gea hxq haq)).trans (fr6 (x) (hq_ge hxq 46 (by decide))))⟩ dX11_read_90

set_option maxHeartbeats 4000000 in
set_option maxRecDepth 100000 in
theorem k_place (l : Launch) (D : va_G) (cs : Nat → ClassId) (B : Nat) (V : hp_V) (n : Nat) (a q : Nat) (haq : a < q) (hF : fx_X cs a q V) (k u : Int32) : hp_M l yX11_place cX11_place 3 (some .int) ({ frames := 1, cells := 0, slots := 0, locals := 21 }) D cs B V n [.ref (a), .int (k), .int (u)] (hp_QI D cs B (fun r V' n' => (r = -1) ∧ n' = n ∧ ∀ x, q + 842 ≤ x → V' x = V x)) 0 (0) := by
  refine hp_walk (R0 := RX11) (by decide) rfl ?_ (Nat.le_of_ble_eq_true rfl)
  intro p e s m below meth c ls hx hb hr hts hown hlocks hin hml hZ hl
  have hl : lv_has ls 3 [(0, .ref (a)), (1, .int (k)), (2, .int (u))] := hl
  obtain ⟨h_a, h_0, h_1, h_2, h_46, h_50, ⟨gl, h_62, gl0, gl1, gl2, gl3, gl4, gl5, gl6, gl7⟩, -, -, -, -, -, -, -, -, h_88, h_465⟩ := hF
  refine lv_iload_n hx hb dX11_place_0 rfl (lv_at hl 1 rfl) ?_
  refine lv_if_lt (tgt := 12) hx hb dX11_place_1 (by decide) (fun c1 => ?_) (fun c1 => ?_)
  · refine lv_iconst (v := -1) hx hb dX11_place_12 (by decide) ?_
    exact hp_iret hx hb hr hlocks hZ ⟨rfl, rfl, fun x hxq => rfl⟩ dX11_place_13
  · refine lv_iload_n hx hb dX11_place_4 rfl (lv_at hl 1 rfl) ?_
    refine lv_aload_n hx hb dX11_place_5 rfl (lv_at hl 0 rfl) ?_
    refine hp_get (v := .int (0)) hx hb hts hown hZ h_a fl_X11_57 rfl dX11_place_6 ?_
    refine lv_icmp_lt (tgt := 14) hx hb dX11_place_9 (by decide) (fun c2 => absurd c2 (c1)) (fun c2 => ?_)
    refine lv_iconst (v := -1) hx hb dX11_place_12 (by decide) ?_
    exact hp_iret hx hb hr hlocks hZ ⟨rfl, rfl, fun x hxq => rfl⟩ dX11_place_13

set_option maxHeartbeats 4000000 in
set_option maxRecDepth 100000 in
theorem k_unused (l : Launch) (D : va_G) (cs : Nat → ClassId) (B : Nat) (V : hp_V) (n : Nat) (a q : Nat) (haq : a < q) (hF : fx_X cs a q V) : hp_M l yX11_unused cX11_unused 1 (some .int) ({ frames := 3, cells := 0, slots := 0, locals := 64 }) D cs B V n [.ref (a)] (hp_QI D cs B (fun r V' n' => (r = 0) ∧ n' = n ∧ ∀ x, q + 842 ≤ x → V' x = V x)) 0 (0) := by
  refine hp_walk (R0 := RX11) (by decide) rfl ?_ (Nat.le_of_ble_eq_true rfl)
  intro p e s m below meth c ls hx hb hr hts hown hlocks hin hml hZ hl
  have hl : lv_has ls 1 [(0, .ref (a))] := hl
  obtain ⟨h_a, h_0, h_1, h_2, h_46, h_50, ⟨gl, h_62, gl0, gl1, gl2, gl3, gl4, gl5, gl6, gl7⟩, -, -, -, -, -, -, -, -, h_88, h_465⟩ := hF
  refine lv_aload_n hx hb dX11_unused_0 rfl (lv_at hl 0 rfl) ?_
  refine hp_get (v := .ref (q + 46)) hx hb hts hown hZ h_a fl_X11_35 rfl dX11_unused_1 ?_
  refine lv_aload_n hx hb dX11_unused_4 rfl (lv_at hl 0 rfl) ?_
  refine hp_get (v := .ref (q + 88)) hx hb hts hown hZ h_a fl_X11_64 rfl dX11_unused_5 ?_
  refine lv_aload_n hx hb dX11_unused_8 rfl (lv_at hl 0 rfl) ?_
  refine hp_get (v := .ref (q + 5)) hx hb hts hown hZ h_a fl_X11_28 rfl dX11_unused_9 ?_
  refine hp_callv (hp_runV (As := [.ref (q + 88), .ref (q + 5)]) (rest := []) hx hb hml hown hts (c_X8_look0 l D cs B V (n) (q + 46) (q + 88) (q + 5) _ _ _ _ _ _ _ h_46 h_88) hZ h_46 cv_X11_172 rfl rfl ⟨Nat.le_of_ble_eq_true rfl, Nat.le_of_ble_eq_true rfl⟩ rfl hl.1 rfl (Nat.le_of_ble_eq_true rfl) dX11_unused_12 ⟨(Nat.le_of_ble_eq_true rfl), (Nat.le_of_ble_eq_true rfl)⟩) hZ (fun V1 n2 _ _ hw3 hZ => ?_)
  obtain ⟨hn5, f7, fr6⟩ := hw3
  have hn5 : n = n2 := hn5.symm
  subst hn5
  refine lv_aload_n hx hb dX11_unused_15 rfl (lv_at hl 0 rfl) ?_
  have f8 := (fr6 (a) (hq_lt haq 46)).trans (h_a)
  have f8 : V1 (a) = some (.inr (11, [.ref (q), .ref (q + 2), .ref (q + 5), .ref (q + 46), .ref (q + 50), .ref (q + 62), .ref (q + 87), .int (0), .ref (q + 88), .ref (q + 465)])) := f8
  refine hp_get (v := .ref (q + 88)) hx hb hts hown hZ f8 fl_X11_64 rfl dX11_unused_16 ?_
  have f9 := (fr6 (q + 88) (hq_ne q 88 46 (by decide))).trans (h_88)
  have f9 : V1 (q + 88) = some (.inr (0, [.ref (q + 89), .int (0), .ref (q + 102), .ref (q + 163), .int (0), .ref (q + 164), .int (0)])) := f9
  refine hp_get (v := .int (0)) hx hb hts hown hZ f9 fl_X11_87 rfl dX11_unused_19 ?_
  refine lv_aload_n hx hb dX11_unused_22 rfl (lv_at hl 0 rfl) ?_
  refine hp_get (v := .ref (q + 46)) hx hb hts hown hZ f8 fl_X11_35 rfl dX11_unused_23 ?_
  refine lv_aload_n hx hb dX11_unused_26 rfl (lv_at hl 0 rfl) ?_
  refine hp_get (v := .ref (q + 88)) hx hb hts hown hZ f8 fl_X11_64 rfl dX11_unused_27 ?_
  refine hp_calli (hp_runV (As := []) (rest := [.ref (q + 46), .int (0)]) hx hb hml hown hts (c_X0_ps0 l D cs B V1 (n) (q + 88) _ _ _ _ f9) hZ f9 cv_X11_180 rfl rfl ⟨Nat.le_of_ble_eq_true rfl, Nat.le_of_ble_eq_true rfl⟩ rfl hl.1 rfl (Nat.le_of_ble_eq_true rfl) dX11_unused_30 ⟨(Nat.le_of_ble_eq_true rfl), (Nat.le_of_ble_eq_true rfl)⟩) hZ (fun r13 V10 n11 _ _ hw12 hZ => ?_)
  obtain ⟨rfl, rfl, rfl⟩ := hw12
  refine hp_calll (hp_runV (As := [.int (0)]) (rest := [.int (0)]) hx hb hml hown hts (c_X8_lu0 l D cs B V1 (n) (q + 46)) hZ f7 cv_X11_204 rfl rfl ⟨Nat.le_of_ble_eq_true rfl, Nat.le_of_ble_eq_true rfl⟩ rfl hl.1 rfl (Nat.le_of_ble_eq_true rfl) dX11_unused_33 ⟨(Nat.le_of_ble_eq_true rfl), (Nat.le_of_ble_eq_true rfl)⟩) hZ (fun r17 V14 n15 _ _ hw16 hZ => ?_)
  obtain ⟨rfl, rfl, rfl⟩ := hw16
  refine hp_calli (hp_runS (As := [.long (0)]) (rest := [.int (0)]) hx hb hml hown hts (c_bitCount0 l D cs B V1 (n)) hZ cv_X11_208 rfl rfl ⟨Nat.le_of_ble_eq_true rfl, Nat.le_of_ble_eq_true rfl⟩ rfl hl.1 rfl (Nat.le_of_ble_eq_true rfl) dX11_unused_36 ⟨(Nat.le_of_ble_eq_true rfl), (Nat.le_of_ble_eq_true rfl)⟩) hZ (fun r21 V18 n19 _ _ hw20 hZ => ?_)
  obtain ⟨rfl, rfl, rfl⟩ := hw20
  refine lv_isub hx hb dX11_unused_39 ?_
  exact hp_iret hx hb hr hlocks hZ ⟨by decide, rfl, fun x hxq => fr6 (x) (hq_ge hxq 46 (by decide))⟩ dX11_unused_40

set_option maxHeartbeats 4000000 in
set_option maxRecDepth 100000 in
theorem k_users (l : Launch) (D : va_G) (cs : Nat → ClassId) (B : Nat) (V : hp_V) (n : Nat) (a q : Nat) (haq : a < q) (hF : fx_X cs a q V) (k : Int32) : hp_M l yX11_users cX11_users 2 (some .int) ({ frames := 1, cells := 0, slots := 0, locals := 21 }) D cs B V n [.ref (a), .int (k)] (hp_QI D cs B (fun r V' n' => (r = -2) ∧ n' = n ∧ ∀ x, q + 842 ≤ x → V' x = V x)) 0 (0) := by
  refine hp_walk (R0 := RX11) (by decide) rfl ?_ (Nat.le_of_ble_eq_true rfl)
  intro p e s m below meth c ls hx hb hr hts hown hlocks hin hml hZ hl
  have hl : lv_has ls 2 [(0, .ref (a)), (1, .int (k))] := hl
  obtain ⟨h_a, h_0, h_1, h_2, h_46, h_50, ⟨gl, h_62, gl0, gl1, gl2, gl3, gl4, gl5, gl6, gl7⟩, -, -, -, -, -, -, -, -, h_88, h_465⟩ := hF
  refine lv_iload_n hx hb dX11_users_0 rfl (lv_at hl 1 rfl) ?_
  refine lv_if_lt (tgt := 15) hx hb dX11_users_1 (by decide) (fun c1 => ?_) (fun c1 => ?_)
  · refine lv_bipush (v := -2) hx hb dX11_users_15 (by decide) ?_
    exact hp_iret hx hb hr hlocks hZ ⟨rfl, rfl, fun x hxq => rfl⟩ dX11_users_17
  · refine lv_iload_n hx hb dX11_users_4 rfl (lv_at hl 1 rfl) ?_
    refine lv_aload_n hx hb dX11_users_5 rfl (lv_at hl 0 rfl) ?_
    refine hp_get (v := .ref (q + 88)) hx hb hts hown hZ h_a fl_X11_64 rfl dX11_users_6 ?_
    refine hp_get (v := .int (0)) hx hb hts hown hZ h_88 fl_X11_87 rfl dX11_users_9 ?_
    refine lv_icmp_lt (tgt := 18) hx hb dX11_users_12 (by decide) (fun c2 => absurd c2 (c1)) (fun c2 => ?_)
    refine lv_bipush (v := -2) hx hb dX11_users_15 (by decide) ?_
    exact hp_iret hx hb hr hlocks hZ ⟨rfl, rfl, fun x hxq => rfl⟩ dX11_users_17

set_option maxHeartbeats 4000000 in
set_option maxRecDepth 100000 in
theorem k_answer (l : Launch) (D : va_G) (cs : Nat → ClassId) (B : Nat) (V : hp_V) (n : Nat) (a q : Nat) (haq : a < q) (hF : fx_X cs a q V) (k u v w : Int32) : hp_M l yX11_answer cX11_answer 7 (some .int) ({ frames := 2, cells := 0, slots := 0, locals := 44 }) D cs B V n [.ref (a), .int (k), .int (u), .int (v), .int (w)] (hp_QI D cs B (fun r V' n' => (r = -2) ∧ n' = n ∧ ∀ x, q + 842 ≤ x → V' x = V x)) 0 (0) := by
  refine hp_walk (R0 := RX11) (by decide) rfl ?_ (Nat.le_of_ble_eq_true rfl)
  intro p e s m below meth c ls hx hb hr hts hown hlocks hin hml hZ hl
  have hl : lv_has ls 7 [(0, .ref (a)), (1, .int (k)), (2, .int (u)), (3, .int (v)), (4, .int (w))] := hl
  obtain ⟨h_a, h_0, h_1, h_2, h_46, h_50, ⟨gl, h_62, gl0, gl1, gl2, gl3, gl4, gl5, gl6, gl7⟩, -, -, -, -, -, -, -, -, h_88, h_465⟩ := hF
  refine lv_bipush (v := -2) hx hb dX11_answer_0 (by decide) ?_
  refine lv_istore (lv' := [(5, .int (-2)), (0, .ref (a)), (1, .int (k)), (2, .int (u)), (3, .int (v)), (4, .int (w))]) hx hb dX11_answer_2 hl (by decide) rfl (fun ls hl => ?_)
  refine lv_iload_n hx hb dX11_answer_4 rfl (lv_at hl 2 rfl) ?_
  refine hp_calli (hp_runS (As := [.int (k)]) (rest := []) hx hb hml hown hts (c_X11_isLearner l D cs B V (n) k) hZ cv_X11_218 rfl rfl ⟨Nat.le_of_ble_eq_true rfl, Nat.le_of_ble_eq_true rfl⟩ rfl hl.1 rfl (Nat.le_of_ble_eq_true rfl) dX11_answer_5 ⟨(Nat.le_of_ble_eq_true rfl), (Nat.le_of_ble_eq_true rfl)⟩) hZ (fun r4 V1 n2 _ _ hw3 hZ => ?_)
  obtain ⟨rfl, rfl, h5⟩ := hw3
  rcases h5 with ⟨hk0, hk8, rfl⟩ | ⟨hkn, rfl⟩
  · refine lv_if_eq (tgt := 176) hx hb dX11_answer_8 (by decide) (fun c6 => absurd c6 (by decide)) (fun c6 => ?_)
    refine lv_aload_n hx hb dX11_answer_11 rfl (lv_at hl 1 rfl) ?_
    refine lv_iload_n hx hb dX11_answer_12 rfl (lv_at hl 3 rfl) ?_
    refine lv_iload_n hx hb dX11_answer_13 rfl (lv_at hl 4 rfl) ?_
    refine lv_iload hx hb dX11_answer_14 (lv_at hl 5 rfl) ?_
    refine hp_calli (hp_runV (As := [.int (u), .int (v), .int (w)]) (rest := []) hx hb hml hown hts (c_X11_isPlace0 l D cs B V (n) (a) q _ _ _ h_a h_88) hZ h_a cv_X11_141 rfl rfl ⟨Nat.le_of_ble_eq_true rfl, Nat.le_of_ble_eq_true rfl⟩ rfl hl.1 rfl (Nat.le_of_ble_eq_true rfl) dX11_answer_16 ⟨(Nat.le_of_ble_eq_true rfl), (Nat.le_of_ble_eq_true rfl)⟩) hZ (fun r10 V7 n8 _ _ hw9 hZ => ?_)
    obtain ⟨rfl, rfl, rfl⟩ := hw9
    refine lv_if_eq (tgt := 176) hx hb dX11_answer_19 (by decide) (fun c11 => ?_) (fun c11 => absurd (by decide) c11)
    refine lv_aload_n hx hb dX11_answer_176 rfl (lv_at hl 1 rfl) ?_
    refine hp_get (v := .ref (q)) hx hb hts hown hZ h_a fl_X11_14 rfl dX11_answer_177 ?_
    refine hp_callv (hp_runV (As := []) (rest := []) hx hb hml hown hts (c_X9_clear l D cs B V (n) (q) _ _ h_0) hZ h_0 cv_X11_81 rfl rfl ⟨Nat.le_of_ble_eq_true rfl, Nat.le_of_ble_eq_true rfl⟩ rfl hl.1 rfl (Nat.le_of_ble_eq_true rfl) dX11_answer_180 ⟨(Nat.le_of_ble_eq_true rfl), (Nat.le_of_ble_eq_true rfl)⟩) hZ (fun V12 n13 _ _ hw14 hZ => ?_)
    obtain ⟨hn16, f18, fr17⟩ := hw14
    have hn16 : n = n13 := hn16.symm
    subst hn16
    refine lv_iload hx hb dX11_answer_183 (lv_at hl 0 rfl) ?_
    exact hp_iret hx hb hr hlocks hZ ⟨rfl, rfl, fun x hxq => fr17 (x) (hq_ge hxq 0 (by decide))⟩ dX11_answer_185
  · refine lv_if_eq (tgt := 176) hx hb dX11_answer_8 (by decide) (fun c19 => ?_) (fun c19 => absurd (by decide) c19)
    refine lv_aload_n hx hb dX11_answer_176 rfl (lv_at hl 1 rfl) ?_
    refine hp_get (v := .ref (q)) hx hb hts hown hZ h_a fl_X11_14 rfl dX11_answer_177 ?_
    refine hp_callv (hp_runV (As := []) (rest := []) hx hb hml hown hts (c_X9_clear l D cs B V (n) (q) _ _ h_0) hZ h_0 cv_X11_81 rfl rfl ⟨Nat.le_of_ble_eq_true rfl, Nat.le_of_ble_eq_true rfl⟩ rfl hl.1 rfl (Nat.le_of_ble_eq_true rfl) dX11_answer_180 ⟨(Nat.le_of_ble_eq_true rfl), (Nat.le_of_ble_eq_true rfl)⟩) hZ (fun V20 n21 _ _ hw22 hZ => ?_)
    obtain ⟨hn24, f26, fr25⟩ := hw22
    have hn24 : n = n21 := hn24.symm
    subst hn24
    refine lv_iload hx hb dX11_answer_183 (lv_at hl 0 rfl) ?_
    exact hp_iret hx hb hr hlocks hZ ⟨rfl, rfl, fun x hxq => fr25 (x) (hq_ge hxq 0 (by decide))⟩ dX11_answer_185

set_option maxHeartbeats 4000000 in
set_option maxRecDepth 100000 in
theorem k_change (l : Launch) (D : va_G) (cs : Nat → ClassId) (B : Nat) (V : hp_V) (n : Nat) (a q : Nat) (haq : a < q) (hF : fx_X cs a q V) (k : Int32) : hp_M l yX11_change cX11_change 2 (some .int) ({ frames := 2, cells := 0, slots := 0, locals := 43 }) D cs B V n [.ref (a), .int (k)] (hp_QI D cs B (fun r V' n' => (r = -9) ∧ n' = n ∧ ∀ x, q + 842 ≤ x → V' x = V x)) 0 (0) := by
  refine hp_walk (R0 := RX11) (by decide) rfl ?_ (Nat.le_of_ble_eq_true rfl)
  intro p e s m below meth c ls hx hb hr hts hown hlocks hin hml hZ hl
  have hl : lv_has ls 2 [(0, .ref (a)), (1, .int (k))] := hl
  obtain ⟨h_a, h_0, h_1, h_2, h_46, h_50, ⟨gl, h_62, gl0, gl1, gl2, gl3, gl4, gl5, gl6, gl7⟩, -, -, -, -, -, -, -, -, h_88, h_465⟩ := hF
  refine lv_aload_n hx hb dX11_change_0 rfl (lv_at hl 0 rfl) ?_
  refine hp_get (v := .ref (q + 50)) hx hb hts hown hZ h_a fl_X11_42 rfl dX11_change_1 ?_
  refine lv_iload_n hx hb dX11_change_4 rfl (lv_at hl 1 rfl) ?_
  refine hp_calli (hp_runV (As := [.int (k)]) (rest := []) hx hb hml hown hts (c_X1_detail0 l D cs B V (n) q (q + 50) k h_50) hZ h_50 cv_X11_263 rfl rfl ⟨Nat.le_of_ble_eq_true rfl, Nat.le_of_ble_eq_true rfl⟩ rfl hl.1 rfl (Nat.le_of_ble_eq_true rfl) dX11_change_5 ⟨(Nat.le_of_ble_eq_true rfl), (Nat.le_of_ble_eq_true rfl)⟩) hZ (fun r4 V1 n2 _ _ hw3 hZ => ?_)
  obtain ⟨rfl, rfl, rfl⟩ := hw3
  exact hp_iret hx hb hr hlocks hZ ⟨rfl, rfl, fun x hxq => rfl⟩ dX11_change_8

set_option maxHeartbeats 4000000 in
set_option maxRecDepth 100000 in
theorem k_misses (l : Launch) (D : va_G) (cs : Nat → ClassId) (B : Nat) (V : hp_V) (n : Nat) (a q : Nat) (haq : a < q) (hF : fx_X cs a q V) (k u : Int32) : hp_M l yX11_misses cX11_misses 3 (some .int) ({ frames := 2, cells := 0, slots := 0, locals := 41 }) D cs B V n [.ref (a), .int (k), .int (u)] (hp_QI D cs B (fun r V' n' => (r = -2) ∧ n' = n ∧ ∀ x, q + 842 ≤ x → V' x = V x)) 0 (0) := by
  refine hp_walk (R0 := RX11) (by decide) rfl ?_ (Nat.le_of_ble_eq_true rfl)
  intro p e s m below meth c ls hx hb hr hts hown hlocks hin hml hZ hl
  have hl : lv_has ls 3 [(0, .ref (a)), (1, .int (k)), (2, .int (u))] := hl
  obtain ⟨h_a, h_0, h_1, h_2, h_46, h_50, ⟨gl, h_62, gl0, gl1, gl2, gl3, gl4, gl5, gl6, gl7⟩, -, -, -, -, -, -, -, -, h_88, h_465⟩ := hF
  refine lv_iload_n hx hb dX11_misses_0 rfl (lv_at hl 1 rfl) ?_
  refine hp_calli (hp_runS (As := [.int (k)]) (rest := []) hx hb hml hown hts (c_X11_isLearner l D cs B V (n) k) hZ cv_X11_218 rfl rfl ⟨Nat.le_of_ble_eq_true rfl, Nat.le_of_ble_eq_true rfl⟩ rfl hl.1 rfl (Nat.le_of_ble_eq_true rfl) dX11_misses_1 ⟨(Nat.le_of_ble_eq_true rfl), (Nat.le_of_ble_eq_true rfl)⟩) hZ (fun r4 V1 n2 _ _ hw3 hZ => ?_)
  obtain ⟨rfl, rfl, h5⟩ := hw3
  rcases h5 with ⟨hk0, hk8, rfl⟩ | ⟨hkn, rfl⟩
  · refine lv_if_eq (tgt := 22) hx hb dX11_misses_4 (by decide) (fun c6 => absurd c6 (by decide)) (fun c6 => ?_)
    refine lv_iload_n hx hb dX11_misses_7 rfl (lv_at hl 2 rfl) ?_
    refine lv_if_lt (tgt := 22) hx hb dX11_misses_8 (by decide) (fun c7 => ?_) (fun c7 => ?_)
    · refine lv_bipush (v := -2) hx hb dX11_misses_22 (by decide) ?_
      exact hp_iret hx hb hr hlocks hZ ⟨rfl, rfl, fun x hxq => rfl⟩ dX11_misses_24
    · refine lv_iload_n hx hb dX11_misses_11 rfl (lv_at hl 2 rfl) ?_
      refine lv_aload_n hx hb dX11_misses_12 rfl (lv_at hl 0 rfl) ?_
      refine hp_get (v := .ref (q + 88)) hx hb hts hown hZ h_a fl_X11_64 rfl dX11_misses_13 ?_
      refine hp_get (v := .int (0)) hx hb hts hown hZ h_88 fl_X11_87 rfl dX11_misses_16 ?_
      refine lv_icmp_lt (tgt := 25) hx hb dX11_misses_19 (by decide) (fun c8 => absurd c8 (c7)) (fun c8 => ?_)
      refine lv_bipush (v := -2) hx hb dX11_misses_22 (by decide) ?_
      exact hp_iret hx hb hr hlocks hZ ⟨rfl, rfl, fun x hxq => rfl⟩ dX11_misses_24
  · refine lv_if_eq (tgt := 22) hx hb dX11_misses_4 (by decide) (fun c9 => ?_) (fun c9 => absurd (by decide) c9)
    refine lv_bipush (v := -2) hx hb dX11_misses_22 (by decide) ?_
    exact hp_iret hx hb hr hlocks hZ ⟨rfl, rfl, fun x hxq => rfl⟩ dX11_misses_24

set_option maxHeartbeats 4000000 in
set_option maxRecDepth 100000 in
theorem k_drill (l : Launch) (D : va_G) (cs : Nat → ClassId) (B : Nat) (V : hp_V) (n : Nat) (a q : Nat) (haq : a < q) (hF : fx_X cs a q V) (k : Int32) : hp_M l yX11_drill cX11_drill 7 (some .int) ({ frames := 3, cells := 0, slots := 0, locals := 64 }) D cs B V n [.ref (a), .int (k)] (hp_QI D cs B (fun r V' n' => (((0 ≤ k ∧ k < 8) → r = -1) ∧ (¬ (0 ≤ k ∧ k < 8) → r = -2)) ∧ n' = n ∧ ∀ x, q + 842 ≤ x → V' x = V x)) 0 (0) := by
  refine hp_walk (R0 := RX11) (by decide) rfl ?_ (Nat.le_of_ble_eq_true rfl)
  intro p e s m below meth c ls hx hb hr hts hown hlocks hin hml hZ hl
  have hl : lv_has ls 7 [(0, .ref (a)), (1, .int (k))] := hl
  obtain ⟨h_a, h_0, h_1, h_2, h_46, h_50, ⟨gl, h_62, gl0, gl1, gl2, gl3, gl4, gl5, gl6, gl7⟩, -, -, -, -, -, -, -, -, h_88, h_465⟩ := hF
  refine lv_iload_n hx hb dX11_drill_0 rfl (lv_at hl 1 rfl) ?_
  refine hp_calli (hp_runS (As := [.int (k)]) (rest := []) hx hb hml hown hts (c_X11_isLearner l D cs B V (n) k) hZ cv_X11_218 rfl rfl ⟨Nat.le_of_ble_eq_true rfl, Nat.le_of_ble_eq_true rfl⟩ rfl hl.1 rfl (Nat.le_of_ble_eq_true rfl) dX11_drill_1 ⟨(Nat.le_of_ble_eq_true rfl), (Nat.le_of_ble_eq_true rfl)⟩) hZ (fun r4 V1 n2 _ _ hw3 hZ => ?_)
  obtain ⟨rfl, rfl, h5⟩ := hw3
  rcases h5 with ⟨hk0, hk8, rfl⟩ | ⟨hkn, rfl⟩
  · refine lv_if_ne (tgt := 10) hx hb dX11_drill_4 (by decide) (fun c6 => ?_) (fun c6 => absurd c6 (by decide))
    refine lv_aload_n hx hb dX11_drill_10 rfl (lv_at hl 0 rfl) ?_
    refine hp_get (v := .ref (q + 46)) hx hb hts hown hZ h_a fl_X11_35 rfl dX11_drill_11 ?_
    refine lv_aload_n hx hb dX11_drill_14 rfl (lv_at hl 0 rfl) ?_
    refine hp_get (v := .ref (q + 88)) hx hb hts hown hZ h_a fl_X11_64 rfl dX11_drill_15 ?_
    refine lv_aload_n hx hb dX11_drill_18 rfl (lv_at hl 0 rfl) ?_
    refine hp_get (v := .ref (q + 5)) hx hb hts hown hZ h_a fl_X11_28 rfl dX11_drill_19 ?_
    refine hp_callv (hp_runV (As := [.ref (q + 88), .ref (q + 5)]) (rest := []) hx hb hml hown hts (c_X8_look0 l D cs B V (n) (q + 46) (q + 88) (q + 5) _ _ _ _ _ _ _ h_46 h_88) hZ h_46 cv_X11_172 rfl rfl ⟨Nat.le_of_ble_eq_true rfl, Nat.le_of_ble_eq_true rfl⟩ rfl hl.1 rfl (Nat.le_of_ble_eq_true rfl) dX11_drill_22 ⟨(Nat.le_of_ble_eq_true rfl), (Nat.le_of_ble_eq_true rfl)⟩) hZ (fun V7 n8 _ _ hw9 hZ => ?_)
    obtain ⟨hn11, f13, fr12⟩ := hw9
    have hn11 : n = n8 := hn11.symm
    subst hn11
    refine lv_aload_n hx hb dX11_drill_25 rfl (lv_at hl 0 rfl) ?_
    have f14 := (fr12 (a) (hq_lt haq 46)).trans (h_a)
    have f14 : V7 (a) = some (.inr (11, [.ref (q), .ref (q + 2), .ref (q + 5), .ref (q + 46), .ref (q + 50), .ref (q + 62), .ref (q + 87), .int (0), .ref (q + 88), .ref (q + 465)])) := f14
    refine hp_get (v := .ref (q + 62)) hx hb hts hown hZ f14 fl_X11_48 rfl dX11_drill_26 ?_
    refine lv_iload_n hx hb dX11_drill_29 rfl (lv_at hl 1 rfl) ?_
    have f15 := (fr12 (q + 62) (hq_ne q 62 46 (by decide))).trans (h_62)
    have f15 : V7 (q + 62) = some (.inl (cs 5, 8, .inr (.inr (.inr (.inr (gl)))))) := f15
    obtain ⟨y16, hy17⟩ := hq_any8 (hq_in8 hk0 hk8) ⟨_, gl0⟩ ⟨_, gl1⟩ ⟨_, gl2⟩ ⟨_, gl3⟩ ⟨_, gl4⟩ ⟨_, gl5⟩ ⟨_, gl6⟩ ⟨_, gl7⟩
    refine hp_aald (v := .ref (y16)) hx hb hZ 5 f15 rfl (hq_in8 hk0 hk8) (by rw [hy17]; rfl) dX11_drill_30 ?_
    refine lv_astore_n (lv' := [(2, .ref (y16)), (0, .ref (a)), (1, .int (k))]) hx hb dX11_drill_31 rfl hl (by decide) rfl (fun ls hl => ?_)
    refine lv_iconst (v := -1) hx hb dX11_drill_32 (by decide) ?_
    refine lv_istore_n (lv' := [(3, .int (-1)), (2, .ref (y16)), (0, .ref (a)), (1, .int (k))]) hx hb dX11_drill_33 rfl hl (by decide) rfl (fun ls hl => ?_)
    refine lv_iconst (v := -1) hx hb dX11_drill_34 (by decide) ?_
    refine lv_istore (lv' := [(4, .int (-1)), (3, .int (-1)), (2, .ref (y16)), (0, .ref (a)), (1, .int (k))]) hx hb dX11_drill_35 hl (by decide) rfl (fun ls hl => ?_)
    refine lv_iconst (v := 0) hx hb dX11_drill_37 (by decide) ?_
    refine lv_istore (lv' := [(5, .int (0)), (4, .int (-1)), (3, .int (-1)), (2, .ref (y16)), (0, .ref (a)), (1, .int (k))]) hx hb dX11_drill_38 hl (by decide) rfl (fun ls hl => ?_)
    refine lv_iload hx hb dX11_drill_40 (lv_at hl 0 rfl) ?_
    refine lv_aload_n hx hb dX11_drill_42 rfl (lv_at hl 4 rfl) ?_
    refine hp_get (v := .ref (q + 88)) hx hb hts hown hZ f14 fl_X11_64 rfl dX11_drill_43 ?_
    have f22 := (fr12 (q + 88) (hq_ne q 88 46 (by decide))).trans (h_88)
    have f22 : V7 (q + 88) = some (.inr (0, [.ref (q + 89), .int (0), .ref (q + 102), .ref (q + 163), .int (0), .ref (q + 164), .int (0)])) := f22
    refine hp_calli (hp_runV (As := []) (rest := [.int (0)]) hx hb hml hown hts (c_X0_ps0 l D cs B V7 (n) (q + 88) _ _ _ _ f22) hZ f22 cv_X11_180 rfl rfl ⟨Nat.le_of_ble_eq_true rfl, Nat.le_of_ble_eq_true rfl⟩ rfl hl.1 rfl (Nat.le_of_ble_eq_true rfl) dX11_drill_46 ⟨(Nat.le_of_ble_eq_true rfl), (Nat.le_of_ble_eq_true rfl)⟩) hZ (fun r21 V18 n19 _ _ hw20 hZ => ?_)
    obtain ⟨rfl, rfl, rfl⟩ := hw20
    refine lv_icmp_ge (tgt := 109) hx hb dX11_drill_49 (by decide) (fun c23 => ?_) (fun c23 => absurd (by decide) c23)
    refine lv_iload_n hx hb dX11_drill_109 rfl (lv_at hl 2 rfl) ?_
    refine lv_iconst (v := -1) hx hb dX11_drill_110 (by decide) ?_
    refine lv_icmp_ne (tgt := 118) hx hb dX11_drill_111 (by decide) (fun c24 => absurd (by decide) c24) (fun c24 => ?_)
    refine lv_iconst (v := -1) hx hb dX11_drill_114 (by decide) ?_
    refine lv_goto (tgt := 138) hx hb dX11_drill_115 (by decide) ?_
    exact hp_iret hx hb hr hlocks hZ ⟨⟨fun _ => rfl, fun h9 => absurd ⟨hk0, hk8⟩ h9⟩, rfl, fun x hxq => fr12 (x) (hq_ge hxq 46 (by decide))⟩ dX11_drill_138
  · refine lv_if_ne (tgt := 10) hx hb dX11_drill_4 (by decide) (fun c25 => absurd (by decide) c25) (fun c25 => ?_)
    refine lv_bipush (v := -2) hx hb dX11_drill_7 (by decide) ?_
    exact hp_iret hx hb hr hlocks hZ ⟨⟨fun h9 => absurd h9 hkn, fun _ => rfl⟩, rfl, fun x hxq => rfl⟩ dX11_drill_9

set_option maxHeartbeats 4000000 in
set_option maxRecDepth 100000 in
theorem k_count (l : Launch) (D : va_G) (cs : Nat → ClassId) (B : Nat) (V : hp_V) (n : Nat) (a q : Nat) (haq : a < q) (hF : fx_X cs a q V) (k : Int32) : hp_M l yX11_count cX11_count 2 (some .int) ({ frames := 1, cells := 0, slots := 0, locals := 21 }) D cs B V n [.ref (a), .int (k)] (hp_QI D cs B (fun r V' n' => (((k = 0 ∨ k = 1 ∨ k = 2 ∨ k = 3) → r = 0) ∧ (¬ (k = 0 ∨ k = 1 ∨ k = 2 ∨ k = 3) → r = -1)) ∧ n' = n ∧ ∀ x, q + 842 ≤ x → V' x = V x)) 0 (0) := by
  refine hp_walk (R0 := RX11) (by decide) rfl ?_ (Nat.le_of_ble_eq_true rfl)
  intro p e s m below meth c ls hx hb hr hts hown hlocks hin hml hZ hl
  have hl : lv_has ls 2 [(0, .ref (a)), (1, .int (k))] := hl
  obtain ⟨h_a, h_0, h_1, h_2, h_46, h_50, ⟨gl, h_62, gl0, gl1, gl2, gl3, gl4, gl5, gl6, gl7⟩, -, -, -, -, -, -, -, -, h_88, h_465⟩ := hF
  refine lv_iload_n hx hb dX11_count_0 rfl (lv_at hl 1 rfl) ?_
  rcases Classical.em (k = 0) with h1 | h1
  · refine lv_tableIn (off := 31) (tgt := 32) hx hb dX11_count_1 (by rw [h1]; decide) (by rw [h1]; decide) (by rw [h1]; decide) (by decide) ?_
    refine lv_aload_n hx hb dX11_count_32 rfl (lv_at hl 0 rfl) ?_
    refine hp_get (v := .ref (q + 88)) hx hb hts hown hZ h_a fl_X11_64 rfl dX11_count_33 ?_
    refine hp_get (v := .int (0)) hx hb hts hown hZ h_88 fl_X11_282 rfl dX11_count_36 ?_
    exact hp_iret hx hb hr hlocks hZ ⟨⟨fun _ => rfl, fun h9 => absurd (Or.inl h1) h9⟩, rfl, fun x hxq => rfl⟩ dX11_count_39
  ·
    rcases Classical.em (k = 1) with h2 | h2
    · refine lv_tableIn (off := 39) (tgt := 40) hx hb dX11_count_1 (by rw [h2]; decide) (by rw [h2]; decide) (by rw [h2]; decide) (by decide) ?_
      refine lv_aload_n hx hb dX11_count_40 rfl (lv_at hl 0 rfl) ?_
      refine hp_get (v := .ref (q + 88)) hx hb hts hown hZ h_a fl_X11_64 rfl dX11_count_41 ?_
      refine hp_get (v := .int (0)) hx hb hts hown hZ h_88 fl_X11_96 rfl dX11_count_44 ?_
      exact hp_iret hx hb hr hlocks hZ ⟨⟨fun _ => rfl, fun h9 => absurd (Or.inr (Or.inl h2)) h9⟩, rfl, fun x hxq => rfl⟩ dX11_count_47
    ·
      rcases Classical.em (k = 2) with h3 | h3
      · refine lv_tableIn (off := 47) (tgt := 48) hx hb dX11_count_1 (by rw [h3]; decide) (by rw [h3]; decide) (by rw [h3]; decide) (by decide) ?_
        refine lv_aload_n hx hb dX11_count_48 rfl (lv_at hl 0 rfl) ?_
        refine hp_get (v := .ref (q + 88)) hx hb hts hown hZ h_a fl_X11_64 rfl dX11_count_49 ?_
        refine hp_get (v := .int (0)) hx hb hts hown hZ h_88 fl_X11_87 rfl dX11_count_52 ?_
        exact hp_iret hx hb hr hlocks hZ ⟨⟨fun _ => rfl, fun h9 => absurd (Or.inr (Or.inr (Or.inl h3))) h9⟩, rfl, fun x hxq => rfl⟩ dX11_count_55
      ·
        rcases Classical.em (k = 3) with h4 | h4
        · refine lv_tableIn (off := 55) (tgt := 56) hx hb dX11_count_1 (by rw [h4]; decide) (by rw [h4]; decide) (by rw [h4]; decide) (by decide) ?_
          refine lv_aload_n hx hb dX11_count_56 rfl (lv_at hl 0 rfl) ?_
          refine hp_get (v := .ref (q)) hx hb hts hown hZ h_a fl_X11_14 rfl dX11_count_57 ?_
          refine hp_get (v := .int (0)) hx hb hts hown hZ h_0 fl_X11_71 rfl dX11_count_60 ?_
          exact hp_iret hx hb hr hlocks hZ ⟨⟨fun _ => rfl, fun h9 => absurd (Or.inr (Or.inr (Or.inr h4))) h9⟩, rfl, fun x hxq => rfl⟩ dX11_count_63
        ·
          have z5 : ¬ k.toInt = 0 := lv_neT h1 (by decide)
          have z6 : ¬ k.toInt = 1 := lv_neT h2 (by decide)
          have z7 : ¬ k.toInt = 2 := lv_neT h3 (by decide)
          have z8 : ¬ k.toInt = 3 := lv_neT h4 (by decide)
          refine lv_tableOut (tgt := 64) hx hb dX11_count_1 (by omega) (by decide) ?_
          refine lv_iconst (v := -1) hx hb dX11_count_64 (by decide) ?_
          exact hp_iret hx hb hr hlocks hZ ⟨⟨fun h9 => h9.elim (fun e => absurd e h1) (fun e => e.elim (fun e => absurd e h2) (fun e => e.elim (fun e => absurd e h3) (fun e => absurd e h4))), fun _ => rfl⟩, rfl, fun x hxq => rfl⟩ dX11_count_65

/-- a text's bytes stand behind it -/
theorem hq_sh0 {cs : Nat → ClassId} {G : hq_G} {V : hp_V} {a R u : Nat} {z : Int32} (h : hq_I cs G V) (ha : G a = some (0, R, 0, 0)) (e : V a = some (.inr (9, [.ref u, .int z]))) : u = a + 1 := by
  obtain ⟨u', z', e', -, -, -, -, hs⟩ := hq_o0 h ha
  have h9 := e.symm.trans e'
  first
  | (cases h9; exact hs)
  | (simp at h9; omega)
set_option maxHeartbeats 4000000 in
set_option maxRecDepth 100000 in
theorem t_X9_clearT (l : Launch) (D : va_G) (cs : Nat → ClassId) (B : Nat) (G : hq_G) (V : hp_V) (n : Nat) (hI : hq_I cs G V) (t : Nat) (h_t : G t = some (0, 4000, 0, 0)) {p_b : Nat} {p_z : Int32} (ho_t : V t = some (.inr (9, [.ref (p_b), .int (p_z)]))) (h_p_b : G p_b = some (1, 4000, 0, 0)) (hi_t0 : 0 ≤ p_z.toInt ∧ p_z.toInt ≤ 4000) : hp_M l yX9_clear cX9_clear 1 none ({ frames := 1, cells := 0, slots := 0, locals := 21 }) D cs B V n [.ref (t)] (hp_QV D cs B (fun V' n' => n = n' ∧ hq_P cs G (fun g => g.1 == 2) V V' ∧ (∃ (p_z1 : Int32), V' t = some (.inr (9, [.ref (p_b), .int (p_z1)])) ∧ (0 ≤ p_z1.toInt ∧ p_z1.toInt ≤ 4000) ∧ (p_z1.toInt = 0)))) 0 0 := by
  refine hp_walk (R0 := RX9) (by decide) rfl ?_ (Nat.le_of_ble_eq_true rfl)
  intro p e s m below meth c ls hx hb hr hts hown hlocks hin hml hZ hl
  have hP : hq_P cs G (fun g => g.1 == 2) V V := hq_P.rf hI
  have hl : lv_has ls 1 [(0, .ref (t))] := hl
  have hb_p_z := hq_rng p_z
  have hsh_t := hq_sh0 hI h_t ho_t
  refine lv_aload_n hx hb dX9_clear_0 rfl (lv_at hl 0 rfl) ?_
  refine lv_iconst (v := 0) hx hb dX9_clear_1 (by decide) ?_
  refine hp_put hx hb hts hown hZ ho_t fp_X9_21 rfl rfl (Nat.le_of_ble_eq_true rfl) dX9_clear_2 (fun V1 _ _ e2 o3 hZ => ?_)
  have e2 : V1 (t) = some (.inr (9, [.ref (p_b), .int (0)])) := e2
  have hP := hP.put h_t e2 o3 (hq_c0 h_p_b (show 0 ≤ (0 : Int) by omega) (show (0 : Int) ≤ (4000 : Nat) by omega) (by omega) (by first | rfl | omega)) rfl
  have hl4 : (0 : Int32).toInt = 0 := by decide
  exact hp_vret hx hb hr hlocks hZ ⟨rfl, hP, ⟨0, e2, by omega, by omega⟩⟩ dX9_clear_5

set_option maxHeartbeats 4000000 in
set_option maxRecDepth 100000 in
theorem t_X11_verbOf_any (l : Launch) (D : va_G) (cs : Nat → ClassId) (B : Nat) (G : hq_G) (V : hp_V) (n : Nat) (hI : hq_I cs G V) (k : Int32) : hp_M l yX11_verbOf cX11_verbOf 1 (some .int) ({ frames := 1, cells := 0, slots := 0, locals := 21 }) D cs B V n [.int (k)] (hp_QI D cs B (fun r V' n' => n = n' ∧ hq_P cs G (fun _ => false) V V' ∧ True)) 0 0 := by
  refine hp_walk (R0 := RX11) (by decide) rfl ?_ (Nat.le_of_ble_eq_true rfl)
  intro p e s m below meth c ls hx hb hr hts hown hlocks hin hml hZ hl
  have hP : hq_P cs G (fun _ => false) V V := hq_P.rf hI
  have hl : lv_has ls 1 [(0, .int (k))] := hl
  have hb_k := hq_rng k
  refine lv_iload_n hx hb dX11_verbOf_0 rfl (lv_at hl 0 rfl) ?_
  refine lv_bipush (v := 30) hx hb dX11_verbOf_1 (by decide) ?_
  refine lv_idiv hx hb dX11_verbOf_3 (by decide) ?_
  refine lv_topi (fun y1 ey2 => ?_)
  have b3 := hq_rng y1
  exact hp_iret hx hb hr hlocks hZ ⟨rfl, hP, trivial⟩ dX11_verbOf_4

set_option maxHeartbeats 4000000 in
set_option maxRecDepth 100000 in
theorem t_X11_tenseOf_any (l : Launch) (D : va_G) (cs : Nat → ClassId) (B : Nat) (G : hq_G) (V : hp_V) (n : Nat) (hI : hq_I cs G V) (k : Int32) : hp_M l yX11_tenseOf cX11_tenseOf 1 (some .int) ({ frames := 1, cells := 0, slots := 0, locals := 21 }) D cs B V n [.int (k)] (hp_QI D cs B (fun r V' n' => n = n' ∧ hq_P cs G (fun _ => false) V V' ∧ True)) 0 0 := by
  refine hp_walk (R0 := RX11) (by decide) rfl ?_ (Nat.le_of_ble_eq_true rfl)
  intro p e s m below meth c ls hx hb hr hts hown hlocks hin hml hZ hl
  have hP : hq_P cs G (fun _ => false) V V := hq_P.rf hI
  have hl : lv_has ls 1 [(0, .int (k))] := hl
  have hb_k := hq_rng k
  refine lv_iload_n hx hb dX11_tenseOf_0 rfl (lv_at hl 0 rfl) ?_
  refine lv_bipush (v := 30) hx hb dX11_tenseOf_1 (by decide) ?_
  refine lv_irem hx hb dX11_tenseOf_3 (by decide) ?_
  refine lv_topi (fun y1 ey2 => ?_)
  have b3 := hq_rng y1
  refine lv_bipush (v := 6) hx hb dX11_tenseOf_4 (by decide) ?_
  refine lv_idiv hx hb dX11_tenseOf_6 (by decide) ?_
  refine lv_topi (fun y4 ey5 => ?_)
  have b6 := hq_rng y4
  exact hp_iret hx hb hr hlocks hZ ⟨rfl, hP, trivial⟩ dX11_tenseOf_7

set_option maxHeartbeats 4000000 in
set_option maxRecDepth 100000 in
theorem t_X11_personOf_any (l : Launch) (D : va_G) (cs : Nat → ClassId) (B : Nat) (G : hq_G) (V : hp_V) (n : Nat) (hI : hq_I cs G V) (k : Int32) : hp_M l yX11_personOf cX11_personOf 1 (some .int) ({ frames := 1, cells := 0, slots := 0, locals := 21 }) D cs B V n [.int (k)] (hp_QI D cs B (fun r V' n' => n = n' ∧ hq_P cs G (fun _ => false) V V' ∧ True)) 0 0 := by
  refine hp_walk (R0 := RX11) (by decide) rfl ?_ (Nat.le_of_ble_eq_true rfl)
  intro p e s m below meth c ls hx hb hr hts hown hlocks hin hml hZ hl
  have hP : hq_P cs G (fun _ => false) V V := hq_P.rf hI
  have hl : lv_has ls 1 [(0, .int (k))] := hl
  have hb_k := hq_rng k
  refine lv_iload_n hx hb dX11_personOf_0 rfl (lv_at hl 0 rfl) ?_
  refine lv_bipush (v := 6) hx hb dX11_personOf_1 (by decide) ?_
  refine lv_irem hx hb dX11_personOf_3 (by decide) ?_
  refine lv_topi (fun y1 ey2 => ?_)
  have b3 := hq_rng y1
  exact hp_iret hx hb hr hlocks hZ ⟨rfl, hP, trivial⟩ dX11_personOf_4

set_option maxHeartbeats 4000000 in
set_option maxRecDepth 100000 in
theorem t_bitCount (l : Launch) (D : va_G) (cs : Nat → ClassId) (B : Nat) (G : hq_G) (V : hp_V) (n : Nat) (hI : hq_I cs G V) (k : Int64) : hp_M l yJ13_bitCount_95d88 cJ13_bitCount_95d88 2 (some .int) ({ frames := 1, cells := 0, slots := 0, locals := 21 }) D cs B V n [.long (k)] (hp_QI D cs B (fun r V' n' => n = n' ∧ hq_P cs G (fun _ => false) V V' ∧ True)) 0 0 := by
  refine hp_walk (R0 := RJ13) (by decide) rfl ?_ (Nat.le_of_ble_eq_true rfl)
  intro p e s m below meth c ls hx hb hr hts hown hlocks hin hml hZ hl
  have hP : hq_P cs G (fun _ => false) V V := hq_P.rf hI
  have hl : lv_has ls 2 [(0, .long (k))] := hl
  refine lv_lload_n hx hb dJ13_bitCount_95d88_0 rfl (lv_at hl 0 rfl) ?_
  refine lv_lload_n hx hb dJ13_bitCount_95d88_1 rfl (lv_at hl 0 rfl) ?_
  refine lv_iconst (v := 1) hx hb dJ13_bitCount_95d88_2 (by decide) ?_
  refine lv_lushr (v := ((k : Int64).toUInt64 >>> ((1 : Int32).toInt64.toUInt64 &&& Int64.toUInt64 63)).toInt64) hx hb dJ13_bitCount_95d88_3 rfl ?_
  refine lv_topl (fun y1 ey2 => ?_)
  refine lv_ldc2 (v := 6148914691236517205) hx hb hown (hts _ k64_J13_314) dJ13_bitCount_95d88_4 ?_
  refine lv_land hx hb dJ13_bitCount_95d88_7 ?_
  refine lv_topl (fun y3 ey4 => ?_)
  refine lv_lsub hx hb dJ13_bitCount_95d88_8 ?_
  refine lv_topl (fun y5 ey6 => ?_)
  refine lv_lstore_n (lv' := [(0, .long (y5))]) hx hb dJ13_bitCount_95d88_9 rfl hl (by decide) rfl (fun ls hl => ?_)
  refine lv_lload_n hx hb dJ13_bitCount_95d88_10 rfl (lv_at hl 0 rfl) ?_
  refine lv_ldc2 (v := 3689348814741910323) hx hb hown (hts _ k64_J13_316) dJ13_bitCount_95d88_11 ?_
  refine lv_land hx hb dJ13_bitCount_95d88_14 ?_
  refine lv_topl (fun y7 ey8 => ?_)
  refine lv_lload_n hx hb dJ13_bitCount_95d88_15 rfl (lv_at hl 0 rfl) ?_
  refine lv_iconst (v := 2) hx hb dJ13_bitCount_95d88_16 (by decide) ?_
  refine lv_lushr (v := ((y5 : Int64).toUInt64 >>> ((2 : Int32).toInt64.toUInt64 &&& Int64.toUInt64 63)).toInt64) hx hb dJ13_bitCount_95d88_17 rfl ?_
  refine lv_topl (fun y9 ey10 => ?_)
  refine lv_ldc2 (v := 3689348814741910323) hx hb hown (hts _ k64_J13_316) dJ13_bitCount_95d88_18 ?_
  refine lv_land hx hb dJ13_bitCount_95d88_21 ?_
  refine lv_topl (fun y11 ey12 => ?_)
  refine lv_ladd hx hb dJ13_bitCount_95d88_22 ?_
  refine lv_topl (fun y13 ey14 => ?_)
  refine lv_lstore_n (lv' := [(0, .long (y13))]) hx hb dJ13_bitCount_95d88_23 rfl hl (by decide) rfl (fun ls hl => ?_)
  refine lv_lload_n hx hb dJ13_bitCount_95d88_24 rfl (lv_at hl 0 rfl) ?_
  refine lv_lload_n hx hb dJ13_bitCount_95d88_25 rfl (lv_at hl 0 rfl) ?_
  refine lv_iconst (v := 4) hx hb dJ13_bitCount_95d88_26 (by decide) ?_
  refine lv_lushr (v := ((y13 : Int64).toUInt64 >>> ((4 : Int32).toInt64.toUInt64 &&& Int64.toUInt64 63)).toInt64) hx hb dJ13_bitCount_95d88_27 rfl ?_
  refine lv_topl (fun y15 ey16 => ?_)
  refine lv_ladd hx hb dJ13_bitCount_95d88_28 ?_
  refine lv_topl (fun y17 ey18 => ?_)
  refine lv_ldc2 (v := 1085102592571150095) hx hb hown (hts _ k64_J13_318) dJ13_bitCount_95d88_29 ?_
  refine lv_land hx hb dJ13_bitCount_95d88_32 ?_
  refine lv_topl (fun y19 ey20 => ?_)
  refine lv_lstore_n (lv' := [(0, .long (y19))]) hx hb dJ13_bitCount_95d88_33 rfl hl (by decide) rfl (fun ls hl => ?_)
  refine lv_lload_n hx hb dJ13_bitCount_95d88_34 rfl (lv_at hl 0 rfl) ?_
  refine lv_lload_n hx hb dJ13_bitCount_95d88_35 rfl (lv_at hl 0 rfl) ?_
  refine lv_bipush (v := 8) hx hb dJ13_bitCount_95d88_36 (by decide) ?_
  refine lv_lushr (v := ((y19 : Int64).toUInt64 >>> ((8 : Int32).toInt64.toUInt64 &&& Int64.toUInt64 63)).toInt64) hx hb dJ13_bitCount_95d88_38 rfl ?_
  refine lv_topl (fun y21 ey22 => ?_)
  refine lv_ladd hx hb dJ13_bitCount_95d88_39 ?_
  refine lv_topl (fun y23 ey24 => ?_)
  refine lv_lstore_n (lv' := [(0, .long (y23))]) hx hb dJ13_bitCount_95d88_40 rfl hl (by decide) rfl (fun ls hl => ?_)
  refine lv_lload_n hx hb dJ13_bitCount_95d88_41 rfl (lv_at hl 0 rfl) ?_
  refine lv_lload_n hx hb dJ13_bitCount_95d88_42 rfl (lv_at hl 0 rfl) ?_
  refine lv_bipush (v := 16) hx hb dJ13_bitCount_95d88_43 (by decide) ?_
  refine lv_lushr (v := ((y23 : Int64).toUInt64 >>> ((16 : Int32).toInt64.toUInt64 &&& Int64.toUInt64 63)).toInt64) hx hb dJ13_bitCount_95d88_45 rfl ?_
  refine lv_topl (fun y25 ey26 => ?_)
  refine lv_ladd hx hb dJ13_bitCount_95d88_46 ?_
  refine lv_topl (fun y27 ey28 => ?_)
  refine lv_lstore_n (lv' := [(0, .long (y27))]) hx hb dJ13_bitCount_95d88_47 rfl hl (by decide) rfl (fun ls hl => ?_)
  refine lv_lload_n hx hb dJ13_bitCount_95d88_48 rfl (lv_at hl 0 rfl) ?_
  refine lv_lload_n hx hb dJ13_bitCount_95d88_49 rfl (lv_at hl 0 rfl) ?_
  refine lv_bipush (v := 32) hx hb dJ13_bitCount_95d88_50 (by decide) ?_
  refine lv_lushr (v := ((y27 : Int64).toUInt64 >>> ((32 : Int32).toInt64.toUInt64 &&& Int64.toUInt64 63)).toInt64) hx hb dJ13_bitCount_95d88_52 rfl ?_
  refine lv_topl (fun y29 ey30 => ?_)
  refine lv_ladd hx hb dJ13_bitCount_95d88_53 ?_
  refine lv_topl (fun y31 ey32 => ?_)
  refine lv_lstore_n (lv' := [(0, .long (y31))]) hx hb dJ13_bitCount_95d88_54 rfl hl (by decide) rfl (fun ls hl => ?_)
  refine lv_lload_n hx hb dJ13_bitCount_95d88_55 rfl (lv_at hl 0 rfl) ?_
  refine lv_l2i (v := (y31).toInt32) hx hb dJ13_bitCount_95d88_56 rfl ?_
  refine lv_topi (fun y33 ey34 => ?_)
  have b35 := hq_rng y33
  refine lv_bipush (v := 127) hx hb dJ13_bitCount_95d88_57 (by decide) ?_
  refine lv_iand hx hb dJ13_bitCount_95d88_59 ?_
  refine lv_topi (fun y36 ey37 => ?_)
  have b38 := hq_rng y36
  exact hp_iret hx hb hr hlocks hZ ⟨rfl, hP, trivial⟩ dJ13_bitCount_95d88_60

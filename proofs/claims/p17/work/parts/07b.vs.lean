/-- the class, fresh: its object at a, what it made from n on (842 cells) -/
def fx_X (cs : Nat → ClassId) (a n : Nat) (V : hp_V) : Prop := V a = some (.inr (11, [.ref (n), .ref (n + 2), .ref (n + 5), .ref (n + 46), .ref (n + 50), .ref (n + 62), .ref (n + 87), .int (0), .ref (n + 88), .ref (n + 465)])) ∧ V (n) = some (.inr (9, [.ref (n + 1), .int (0)])) ∧ V (n + 1) = some (.inl (cs 0, 4000, .inl (fun _ => 0))) ∧ V (n + 2) = some (.inr (7, [.int (0), .int (-1), .null, .null, .int (0), .int (0), .int (0), .ref (n + 3)])) ∧ V (n + 3) = some (.inr (9, [.ref (n + 4), .int (0)])) ∧ V (n + 4) = some (.inl (cs 0, 12, .inl (fun _ => 0))) ∧ V (n + 5) = some (.inr (6, [.ref (n + 6), .int (0), .ref (n + 24), .ref (n + 34), .ref (n + 44)])) ∧ V (n + 6) = some (.inr (3, [.ref (n + 7), .int (0)])) ∧ V (n + 8) = some (.inr (2, [.ref (n + 9), .ref (n + 11), .int (0)])) ∧ V (n + 9) = some (.inr (9, [.ref (n + 10), .int (0)])) ∧ V (n + 10) = some (.inl (cs 0, 30, .inl (fun _ => 0))) ∧ V (n + 11) = some (.inl (cs 1, 120, .inl (fun _ => 0))) ∧ V (n + 12) = some (.inr (2, [.ref (n + 13), .ref (n + 15), .int (0)])) ∧ V (n + 13) = some (.inr (9, [.ref (n + 14), .int (0)])) ∧ V (n + 14) = some (.inl (cs 0, 30, .inl (fun _ => 0))) ∧ V (n + 15) = some (.inl (cs 1, 120, .inl (fun _ => 0))) ∧ V (n + 16) = some (.inr (2, [.ref (n + 17), .ref (n + 19), .int (0)])) ∧ V (n + 17) = some (.inr (9, [.ref (n + 18), .int (0)])) ∧ V (n + 18) = some (.inl (cs 0, 30, .inl (fun _ => 0))) ∧ V (n + 19) = some (.inl (cs 1, 120, .inl (fun _ => 0))) ∧ V (n + 20) = some (.inr (2, [.ref (n + 21), .ref (n + 23), .int (0)])) ∧ V (n + 21) = some (.inr (9, [.ref (n + 22), .int (0)])) ∧ V (n + 22) = some (.inl (cs 0, 30, .inl (fun _ => 0))) ∧ V (n + 23) = some (.inl (cs 1, 120, .inl (fun _ => 0))) ∧ V (n + 24) = some (.inr (3, [.ref (n + 25), .int (0)])) ∧ V (n + 26) = some (.inr (2, [.ref (n + 27), .ref (n + 29), .int (0)])) ∧ V (n + 27) = some (.inr (9, [.ref (n + 28), .int (0)])) ∧ V (n + 28) = some (.inl (cs 0, 30, .inl (fun _ => 0))) ∧ V (n + 29) = some (.inl (cs 1, 120, .inl (fun _ => 0))) ∧ V (n + 30) = some (.inr (2, [.ref (n + 31), .ref (n + 33), .int (0)])) ∧ V (n + 31) = some (.inr (9, [.ref (n + 32), .int (0)])) ∧ V (n + 32) = some (.inl (cs 0, 30, .inl (fun _ => 0))) ∧ V (n + 33) = some (.inl (cs 1, 120, .inl (fun _ => 0))) ∧ V (n + 34) = some (.inr (3, [.ref (n + 35), .int (0)])) ∧ V (n + 36) = some (.inr (2, [.ref (n + 37), .ref (n + 39), .int (0)])) ∧ V (n + 37) = some (.inr (9, [.ref (n + 38), .int (0)])) ∧ V (n + 38) = some (.inl (cs 0, 30, .inl (fun _ => 0))) ∧ V (n + 39) = some (.inl (cs 1, 120, .inl (fun _ => 0))) ∧ V (n + 40) = some (.inr (2, [.ref (n + 41), .ref (n + 43), .int (0)])) ∧ V (n + 41) = some (.inr (9, [.ref (n + 42), .int (0)])) ∧ V (n + 42) = some (.inl (cs 0, 30, .inl (fun _ => 0))) ∧ V (n + 43) = some (.inl (cs 1, 120, .inl (fun _ => 0))) ∧ V (n + 44) = some (.inr (9, [.ref (n + 45), .int (0)])) ∧ V (n + 45) = some (.inl (cs 0, 30, .inl (fun _ => 0))) ∧ V (n + 46) = some (.inr (8, [.int (0), .ref (n + 47), .ref (n + 48), .ref (n + 49)])) ∧ V (n + 47) = some (.inl (cs 2, 900, .inr (.inl (fun _ => 0)))) ∧ V (n + 48) = some (.inl (cs 2, 900, .inr (.inl (fun _ => 0)))) ∧ V (n + 49) = some (.inl (cs 2, 900, .inr (.inl (fun _ => 0)))) ∧ V (n + 50) = some (.inr (1, [.ref (n + 51), .ref (n + 52), .int (0), .ref (n + 53), .ref (n + 55), .ref (n + 57), .null, .null, .null, .int (0), .ref (n + 59), .ref (n + 60), .ref (n + 61)])) ∧ V (n + 51) = some (.inr (10, [.int (0), .int (0), .int (0), .int (0), .int (0), .int (0), .int (0)])) ∧ V (n + 52) = some (.inr (10, [.int (0), .int (0), .int (0), .int (0), .int (0), .int (0), .int (0)])) ∧ V (n + 53) = some (.inr (9, [.ref (n + 54), .int (0)])) ∧ V (n + 54) = some (.inl (cs 0, 30, .inl (fun _ => 0))) ∧ V (n + 55) = some (.inr (9, [.ref (n + 56), .int (0)])) ∧ V (n + 56) = some (.inl (cs 0, 30, .inl (fun _ => 0))) ∧ V (n + 57) = some (.inr (9, [.ref (n + 58), .int (0)])) ∧ V (n + 58) = some (.inl (cs 0, 30, .inl (fun _ => 0))) ∧ V (n + 59) = some (.inl (cs 1, 2, .inl (fun _ => 0))) ∧ V (n + 60) = some (.inl (cs 1, 2, .inl (fun _ => 0))) ∧ V (n + 61) = some (.inl (cs 1, 2, .inl (fun _ => 0))) ∧ V (n + 63) = some (.inr (4, [.ref (n + 64), .ref (n + 65)])) ∧ V (n + 66) = some (.inr (4, [.ref (n + 67), .ref (n + 68)])) ∧ V (n + 69) = some (.inr (4, [.ref (n + 70), .ref (n + 71)])) ∧ V (n + 72) = some (.inr (4, [.ref (n + 73), .ref (n + 74)])) ∧ V (n + 75) = some (.inr (4, [.ref (n + 76), .ref (n + 77)])) ∧ V (n + 78) = some (.inr (4, [.ref (n + 79), .ref (n + 80)])) ∧ V (n + 81) = some (.inr (4, [.ref (n + 82), .ref (n + 83)])) ∧ V (n + 84) = some (.inr (4, [.ref (n + 85), .ref (n + 86)])) ∧ V (n + 64) = some (.inl (cs 1, 60, .inl (fun _ => 0))) ∧ V (n + 67) = some (.inl (cs 1, 60, .inl (fun _ => 0))) ∧ V (n + 70) = some (.inl (cs 1, 60, .inl (fun _ => 0))) ∧ V (n + 73) = some (.inl (cs 1, 60, .inl (fun _ => 0))) ∧ V (n + 76) = some (.inl (cs 1, 60, .inl (fun _ => 0))) ∧ V (n + 79) = some (.inl (cs 1, 60, .inl (fun _ => 0))) ∧ V (n + 82) = some (.inl (cs 1, 60, .inl (fun _ => 0))) ∧ V (n + 85) = some (.inl (cs 1, 60, .inl (fun _ => 0))) ∧ V (n + 87) = some (.inl (cs 1, 60, .inl (fun _ => 0))) ∧ (∃ g : Nat → Option Nat, V (n + 7) = some (.inl (cs 4, 4, .inr (.inr (.inr (.inr (g)))))) ∧ g 0 = some (n + 8) ∧ g 1 = some (n + 12) ∧ g 2 = some (n + 16) ∧ g 3 = some (n + 20)) ∧ (∃ g : Nat → Option Nat, V (n + 25) = some (.inl (cs 4, 2, .inr (.inr (.inr (.inr (g)))))) ∧ g 0 = some (n + 26) ∧ g 1 = some (n + 30)) ∧ (∃ g : Nat → Option Nat, V (n + 35) = some (.inl (cs 4, 2, .inr (.inr (.inr (.inr (g)))))) ∧ g 0 = some (n + 36) ∧ g 1 = some (n + 40)) ∧ (∃ g : Nat → Option Nat, V (n + 62) = some (.inl (cs 5, 8, .inr (.inr (.inr (.inr (g)))))) ∧ g 0 = some (n + 63) ∧ g 1 = some (n + 66) ∧ g 2 = some (n + 69) ∧ g 3 = some (n + 72) ∧ g 4 = some (n + 75) ∧ g 5 = some (n + 78) ∧ g 6 = some (n + 81) ∧ g 7 = some (n + 84)) ∧ (∃ g : Nat → Int32, V (n + 65) = some (.inl (cs 1, 3, .inl (g)))) ∧ (∃ g : Nat → Int32, V (n + 68) = some (.inl (cs 1, 3, .inl (g)))) ∧ (∃ g : Nat → Int32, V (n + 71) = some (.inl (cs 1, 3, .inl (g)))) ∧ (∃ g : Nat → Int32, V (n + 74) = some (.inl (cs 1, 3, .inl (g)))) ∧ (∃ g : Nat → Int32, V (n + 77) = some (.inl (cs 1, 3, .inl (g)))) ∧ (∃ g : Nat → Int32, V (n + 80) = some (.inl (cs 1, 3, .inl (g)))) ∧ (∃ g : Nat → Int32, V (n + 83) = some (.inl (cs 1, 3, .inl (g)))) ∧ (∃ g : Nat → Int32, V (n + 86) = some (.inl (cs 1, 3, .inl (g)))) ∧ fx_B cs V (n + 88) (n + 89) ∧ fx_B cs V (n + 465) (n + 466)

set_option maxHeartbeats 4000000 in
set_option maxRecDepth 100000 in
theorem c_X11_init (l : Launch) (D : va_G) (cs : Nat → ClassId) (B : Nat) (V : hp_V) (n : Nat) (a : Nat) (f0 : V a = some (.inr (11, [.null, .null, .null, .null, .null, .null, .null, .int (0), .null, .null]))) : hp_M l yX11_init cX11_init 2 none ({ frames := 5, cells := 842, slots := 13610, locals := 104 }) D cs B V n [.ref (a)] (hp_QV D cs B (fun V' n' => n' = n + 842 ∧ fx_X cs a n V' ∧ ∀ x, x < n → x ≠ a → V' x = V x)) 842 (13610) := by
  refine hp_walk (R0 := RX11) (by decide) rfl ?_ (Nat.le_of_ble_eq_true rfl)
  intro p e s m below meth c ls hx hb hr hts hown hlocks hin hml hZ hl
  have hin : meth.name = "<init>" := hin
  have hl : lv_has ls 2 [(0, .ref (a))] := hl
  have lt_f0 := hZ.lt f0
  refine lv_aload_n hx hb dX11_init_0 rfl (lv_at hl 0 rfl) ?_
  refine W.objInit hx hb hown (hts _ oi_X11_3) (hts _ oi_i) (hts _ oi_c) rfl (by rw [hml]; exact hl.1) rfl dX11_init_1 (Nat.le_of_ble_eq_true rfl) (Nat.le_of_ble_eq_true rfl) ?_
  refine W.eq (g2 := F0 m 4 ls []) rfl ?_
  refine lv_aload_n hx hb dX11_init_4 rfl (lv_at hl 0 rfl) ?_
  refine hp_new hx hb hts hown hZ nw_X11_9 (Nat.le_of_ble_eq_true rfl) (Nat.le_of_ble_eq_true rfl) dX11_init_5 (fun V1 _ e2 o3 hZ => ?_)
  have e2 : V1 (n) = some (.inr (9, [.null, .int (0)])) := e2
  refine lv_dup hx hb dX11_init_8 rfl ?_
  refine lv_sipush (v := 4000) hx hb dX11_init_9 (by decide) ?_
  refine hp_callv (hp_runN (As := [.int (4000)]) (rest := [.ref (n), .ref (a)]) hx hb hml hown hts (c_X9_init l D cs B V1 (n + 1) (n) 4000 4000 (by decide) (by decide) (by decide) (by decide) e2) hZ cv_X11_11 rfl rfl ⟨Nat.le_of_ble_eq_true rfl, Nat.le_of_ble_eq_true rfl⟩ rfl hl.1 rfl (Nat.le_of_ble_eq_true rfl) dX11_init_12 ⟨(Nat.le_of_ble_eq_true rfl), (Nat.le_of_ble_eq_true rfl)⟩) hZ (fun V4 n5 _ _ hw6 hZ => ?_)
  obtain ⟨hn8, g9, g10, fr7⟩ := hw6
  have hn8 : n + 2 = n5 := by omega
  subst hn8
  have fx11 := (fr7 (a) (hq_ltn lt_f0 1) (hq_lt lt_f0 0)).trans ((o3 (a) (hq_lt lt_f0 0)).trans (f0))
  have fx11 : V4 (a) = some (.inr (11, [.null, .null, .null, .null, .null, .null, .null, .int (0), .null, .null])) := fx11
  refine hp_putF hx hb hts hown hin hZ fx11 fp_X11_14 rfl rfl (Nat.le_of_ble_eq_true rfl) dX11_init_15 (fun V12 _ _ e13 o14 hZ => ?_)
  have e13 : V12 (a) = some (.inr (11, [.ref (n), .null, .null, .null, .null, .null, .null, .int (0), .null, .null])) := e13
  refine lv_aload_n hx hb dX11_init_18 rfl (lv_at hl 0 rfl) ?_
  refine hp_new hx hb hts hown hZ nw_X11_18 (Nat.le_of_ble_eq_true rfl) (Nat.le_of_ble_eq_true rfl) dX11_init_19 (fun V15 _ e16 o17 hZ => ?_)
  have e16 : V15 (n + 2) = some (.inr (7, [.int (0), .int (0), .null, .null, .int (0), .int (0), .int (0), .null])) := e16
  refine lv_dup hx hb dX11_init_22 rfl ?_
  refine hp_callv (hp_runN (As := []) (rest := [.ref (n + 2), .ref (a)]) hx hb hml hown hts (c_X7_init l D cs B V15 (n + 3) (n + 2) e16) hZ cv_X11_20 rfl rfl ⟨Nat.le_of_ble_eq_true rfl, Nat.le_of_ble_eq_true rfl⟩ rfl hl.1 rfl (Nat.le_of_ble_eq_true rfl) dX11_init_23 ⟨(Nat.le_of_ble_eq_true rfl), (Nat.le_of_ble_eq_true rfl)⟩) hZ (fun V18 n19 _ _ hw20 hZ => ?_)
  obtain ⟨hn22, g23, g24, g25, fr21⟩ := hw20
  have hn22 : n + 5 = n19 := by omega
  subst hn22
  have fx26 := (fr21 (a) (hq_ltn lt_f0 3) (hq_lt lt_f0 2)).trans ((o17 (a) (hq_lt lt_f0 2)).trans (e13))
  have fx26 : V18 (a) = some (.inr (11, [.ref (n), .null, .null, .null, .null, .null, .null, .int (0), .null, .null])) := fx26
  refine hp_putF hx hb hts hown hin hZ fx26 fp_X11_21 rfl rfl (Nat.le_of_ble_eq_true rfl) dX11_init_26 (fun V27 _ _ e28 o29 hZ => ?_)
  have e28 : V27 (a) = some (.inr (11, [.ref (n), .ref (n + 2), .null, .null, .null, .null, .null, .int (0), .null, .null])) := e28
  refine lv_aload_n hx hb dX11_init_29 rfl (lv_at hl 0 rfl) ?_
  refine hp_new hx hb hts hown hZ nw_X11_25 (Nat.le_of_ble_eq_true rfl) (Nat.le_of_ble_eq_true rfl) dX11_init_30 (fun V30 _ e31 o32 hZ => ?_)
  have e31 : V30 (n + 5) = some (.inr (6, [.null, .int (0), .null, .null, .null])) := e31
  refine lv_dup hx hb dX11_init_33 rfl ?_
  refine hp_callv (hp_runN (As := []) (rest := [.ref (n + 5), .ref (a)]) hx hb hml hown hts (c_X6_init l D cs B V30 (n + 6) (n + 5) e31) hZ cv_X11_27 rfl rfl ⟨Nat.le_of_ble_eq_true rfl, Nat.le_of_ble_eq_true rfl⟩ rfl hl.1 rfl (Nat.le_of_ble_eq_true rfl) dX11_init_34 ⟨(Nat.le_of_ble_eq_true rfl), (Nat.le_of_ble_eq_true rfl)⟩) hZ (fun V33 n34 _ _ hw35 hZ => ?_)
  obtain ⟨hn37, g38, g39, g40, g41, g42, g43, g44, g45, g46, g47, g48, g49, g50, g51, g52, g53, g54, g55, g56, g57, g58, g59, g60, g61, g62, g63, g64, g65, g66, g67, g68, g69, g70, g71, g72, g73, g74, g75, ⟨g76, g77, g78,g79,g80,g81⟩, ⟨g82, g83, g84,g85⟩, ⟨g86, g87, g88,g89⟩, fr36⟩ := hw35
  have hn37 : n + 46 = n34 := by omega
  subst hn37
  have fx90 := (fr36 (a) (hq_ltn lt_f0 6) (hq_lt lt_f0 5)).trans ((o32 (a) (hq_lt lt_f0 5)).trans (e28))
  have fx90 : V33 (a) = some (.inr (11, [.ref (n), .ref (n + 2), .null, .null, .null, .null, .null, .int (0), .null, .null])) := fx90
  refine hp_putF hx hb hts hown hin hZ fx90 fp_X11_28 rfl rfl (Nat.le_of_ble_eq_true rfl) dX11_init_37 (fun V91 _ _ e92 o93 hZ => ?_)
  have e92 : V91 (a) = some (.inr (11, [.ref (n), .ref (n + 2), .ref (n + 5), .null, .null, .null, .null, .int (0), .null, .null])) := e92
  refine lv_aload_n hx hb dX11_init_40 rfl (lv_at hl 0 rfl) ?_
  refine hp_new hx hb hts hown hZ nw_X11_32 (Nat.le_of_ble_eq_true rfl) (Nat.le_of_ble_eq_true rfl) dX11_init_41 (fun V94 _ e95 o96 hZ => ?_)
  have e95 : V94 (n + 46) = some (.inr (8, [.int (0), .null, .null, .null])) := e95
  refine lv_dup hx hb dX11_init_44 rfl ?_
  refine hp_callv (hp_runN (As := []) (rest := [.ref (n + 46), .ref (a)]) hx hb hml hown hts (c_X8_init l D cs B V94 (n + 47) (n + 46) e95) hZ cv_X11_34 rfl rfl ⟨Nat.le_of_ble_eq_true rfl, Nat.le_of_ble_eq_true rfl⟩ rfl hl.1 rfl (Nat.le_of_ble_eq_true rfl) dX11_init_45 ⟨(Nat.le_of_ble_eq_true rfl), (Nat.le_of_ble_eq_true rfl)⟩) hZ (fun V97 n98 _ _ hw99 hZ => ?_)
  obtain ⟨hn101, g102, g103, g104, g105, fr100⟩ := hw99
  have hn101 : n + 50 = n98 := by omega
  subst hn101
  have fx106 := (fr100 (a) (hq_ltn lt_f0 47) (hq_lt lt_f0 46)).trans ((o96 (a) (hq_lt lt_f0 46)).trans (e92))
  have fx106 : V97 (a) = some (.inr (11, [.ref (n), .ref (n + 2), .ref (n + 5), .null, .null, .null, .null, .int (0), .null, .null])) := fx106
  refine hp_putF hx hb hts hown hin hZ fx106 fp_X11_35 rfl rfl (Nat.le_of_ble_eq_true rfl) dX11_init_48 (fun V107 _ _ e108 o109 hZ => ?_)
  have e108 : V107 (a) = some (.inr (11, [.ref (n), .ref (n + 2), .ref (n + 5), .ref (n + 46), .null, .null, .null, .int (0), .null, .null])) := e108
  refine lv_aload_n hx hb dX11_init_51 rfl (lv_at hl 0 rfl) ?_
  refine hp_new hx hb hts hown hZ nw_X11_39 (Nat.le_of_ble_eq_true rfl) (Nat.le_of_ble_eq_true rfl) dX11_init_52 (fun V110 _ e111 o112 hZ => ?_)
  have e111 : V110 (n + 50) = some (.inr (1, [.null, .null, .int (0), .null, .null, .null, .null, .null, .null, .int (0), .null, .null, .null])) := e111
  refine lv_dup hx hb dX11_init_55 rfl ?_
  refine hp_callv (hp_runN (As := []) (rest := [.ref (n + 50), .ref (a)]) hx hb hml hown hts (c_X1_init l D cs B V110 (n + 51) (n + 50) e111) hZ cv_X11_41 rfl rfl ⟨Nat.le_of_ble_eq_true rfl, Nat.le_of_ble_eq_true rfl⟩ rfl hl.1 rfl (Nat.le_of_ble_eq_true rfl) dX11_init_56 ⟨(Nat.le_of_ble_eq_true rfl), (Nat.le_of_ble_eq_true rfl)⟩) hZ (fun V113 n114 _ _ hw115 hZ => ?_)
  obtain ⟨hn117, g118, g119, g120, g121, g122, g123, g124, g125, g126, g127, g128, g129, fr116⟩ := hw115
  have hn117 : n + 62 = n114 := by omega
  subst hn117
  have fx130 := (fr116 (a) (hq_ltn lt_f0 51) (hq_lt lt_f0 50)).trans ((o112 (a) (hq_lt lt_f0 50)).trans (e108))
  have fx130 : V113 (a) = some (.inr (11, [.ref (n), .ref (n + 2), .ref (n + 5), .ref (n + 46), .null, .null, .null, .int (0), .null, .null])) := fx130
  refine hp_putF hx hb hts hown hin hZ fx130 fp_X11_42 rfl rfl (Nat.le_of_ble_eq_true rfl) dX11_init_59 (fun V131 _ _ e132 o133 hZ => ?_)
  have e132 : V131 (a) = some (.inr (11, [.ref (n), .ref (n + 2), .ref (n + 5), .ref (n + 46), .ref (n + 50), .null, .null, .int (0), .null, .null])) := e132
  refine lv_aload_n hx hb dX11_init_62 rfl (lv_at hl 0 rfl) ?_
  refine lv_bipush (v := 8) hx hb dX11_init_63 (by decide) ?_
  refine hp_newq (C := RX4) (t0 := 5) (cA := cs 5) (N := 8) hx hb hts hown hZ kl_X11_46 (fun h => h.2.2.1) rfl (by decide) (by decide) (by decide) (Nat.le_of_ble_eq_true rfl) (Nat.le_of_ble_eq_true rfl) dX11_init_65 (fun V134 _ e135 o136 hZ => ?_)
  have e135 : V134 (n + 62) = some (.inl (cs 5, 8, .inr (.inr (.inr (.inr (fun _ => none)))))) := e135
  have fx137 := (o136 (a) (hq_lt lt_f0 62)).trans (e132)
  have fx137 : V134 (a) = some (.inr (11, [.ref (n), .ref (n + 2), .ref (n + 5), .ref (n + 46), .ref (n + 50), .null, .null, .int (0), .null, .null])) := fx137
  refine hp_putF hx hb hts hown hin hZ fx137 fp_X11_48 rfl rfl (Nat.le_of_ble_eq_true rfl) dX11_init_68 (fun V138 _ _ e139 o140 hZ => ?_)
  have e139 : V138 (a) = some (.inr (11, [.ref (n), .ref (n + 2), .ref (n + 5), .ref (n + 46), .ref (n + 50), .ref (n + 62), .null, .int (0), .null, .null])) := e139
  refine lv_iconst (v := 0) hx hb dX11_init_71 (by decide) ?_
  refine lv_istore_n (lv' := [(1, .int (0)), (0, .ref (a))]) hx hb dX11_init_72 rfl hl (by decide) rfl (fun ls hl => ?_)
  refine lv_iload_n hx hb dX11_init_73 rfl (lv_at hl 0 rfl) ?_
  refine lv_bipush (v := 8) hx hb dX11_init_74 (by decide) ?_
  refine lv_icmp_ge (tgt := 98) hx hb dX11_init_76 (by decide) (fun c141 => absurd c141 (by decide)) (fun c141 => ?_)
  refine lv_aload_n hx hb dX11_init_79 rfl (lv_at hl 1 rfl) ?_
  refine hp_get (v := .ref (n + 62)) hx hb hts hown hZ e139 fl_X11_48 rfl dX11_init_80 ?_
  refine lv_iload_n hx hb dX11_init_83 rfl (lv_at hl 0 rfl) ?_
  refine hp_new hx hb hts hown hZ nw_X11_46 (Nat.le_of_ble_eq_true rfl) (Nat.le_of_ble_eq_true rfl) dX11_init_84 (fun V142 _ e143 o144 hZ => ?_)
  have e143 : V142 (n + 63) = some (.inr (4, [.null, .null])) := e143
  refine lv_dup hx hb dX11_init_87 rfl ?_
  refine hp_callv (hp_runN (As := []) (rest := [.ref (n + 63), .int (0), .ref (n + 62)]) hx hb hml hown hts (c_X4_init l D cs B V142 (n + 64) (n + 63) e143) hZ cv_X11_52 rfl rfl ⟨Nat.le_of_ble_eq_true rfl, Nat.le_of_ble_eq_true rfl⟩ rfl hl.1 rfl (Nat.le_of_ble_eq_true rfl) dX11_init_88 ⟨(Nat.le_of_ble_eq_true rfl), (Nat.le_of_ble_eq_true rfl)⟩) hZ (fun V145 n146 _ _ hw147 hZ => ?_)
  obtain ⟨hn149, g153, g154, ⟨g150, g151, -, -, -⟩, fr148⟩ := hw147
  have hn149 : n + 66 = n146 := by omega
  subst hn149
  have fx155 := (fr148 (n + 62) (hq_lts n 62 64 (by decide)) (hq_ne n 62 63 (by decide))).trans ((o144 (n + 62) (hq_ne n 62 63 (by decide))).trans ((o140 (n + 62) (hq_lt lt_f0 62).symm).trans (e135)))
  have fx155 : V145 (n + 62) = some (.inl (cs 5, 8, .inr (.inr (.inr (.inr (fun _ => none)))))) := fx155
  refine hp_aast (r := (RX4, TX4, 2)) hx hb hZ 5 4 fx155 rfl g153 rfl (by unfold vp_in; decide) dX11_init_91 (fun V156 _ _ e157 o158 hZ => ?_)
  have e157 : V156 (n + 62) = some (.inl (cs 5, 8, .inr (.inr (.inr (.inr (va_up (fun _ => none) ((0 : Int32).toNatClampNeg) (some (n + 63)))))))) := e157
  refine lv_iinc (v := 1) (lv' := [(1, .int (1)), (0, .ref (a))]) hx hb dX11_init_92 hl (k := 0) rfl (by decide) (by decide) rfl (fun ls hl => ?_)
  refine lv_goto (tgt := 73) hx hb dX11_init_95 (by decide) ?_
  refine lv_iload_n hx hb dX11_init_73 rfl (lv_at hl 0 rfl) ?_
  refine lv_bipush (v := 8) hx hb dX11_init_74 (by decide) ?_
  refine lv_icmp_ge (tgt := 98) hx hb dX11_init_76 (by decide) (fun c159 => absurd c159 (by decide)) (fun c159 => ?_)
  refine lv_aload_n hx hb dX11_init_79 rfl (lv_at hl 1 rfl) ?_
  have fx160 := (o158 (a) (hq_lt lt_f0 62)).trans ((fr148 (a) (hq_ltn lt_f0 64) (hq_lt lt_f0 63)).trans ((o144 (a) (hq_lt lt_f0 63)).trans (e139)))
  have fx160 : V156 (a) = some (.inr (11, [.ref (n), .ref (n + 2), .ref (n + 5), .ref (n + 46), .ref (n + 50), .ref (n + 62), .null, .int (0), .null, .null])) := fx160
  refine hp_get (v := .ref (n + 62)) hx hb hts hown hZ fx160 fl_X11_48 rfl dX11_init_80 ?_
  refine lv_iload_n hx hb dX11_init_83 rfl (lv_at hl 0 rfl) ?_
  refine hp_new hx hb hts hown hZ nw_X11_46 (Nat.le_of_ble_eq_true rfl) (Nat.le_of_ble_eq_true rfl) dX11_init_84 (fun V161 _ e162 o163 hZ => ?_)
  have e162 : V161 (n + 66) = some (.inr (4, [.null, .null])) := e162
  refine lv_dup hx hb dX11_init_87 rfl ?_
  refine hp_callv (hp_runN (As := []) (rest := [.ref (n + 66), .int (1), .ref (n + 62)]) hx hb hml hown hts (c_X4_init l D cs B V161 (n + 67) (n + 66) e162) hZ cv_X11_52 rfl rfl ⟨Nat.le_of_ble_eq_true rfl, Nat.le_of_ble_eq_true rfl⟩ rfl hl.1 rfl (Nat.le_of_ble_eq_true rfl) dX11_init_88 ⟨(Nat.le_of_ble_eq_true rfl), (Nat.le_of_ble_eq_true rfl)⟩) hZ (fun V164 n165 _ _ hw166 hZ => ?_)
  obtain ⟨hn168, g172, g173, ⟨g169, g170, -, -, -⟩, fr167⟩ := hw166
  have hn168 : n + 69 = n165 := by omega
  subst hn168
  have fx174 := (fr167 (n + 62) (hq_lts n 62 67 (by decide)) (hq_ne n 62 66 (by decide))).trans ((o163 (n + 62) (hq_ne n 62 66 (by decide))).trans (e157))
  have fx174 : V164 (n + 62) = some (.inl (cs 5, 8, .inr (.inr (.inr (.inr (va_up (fun _ => none) ((0 : Int32).toNatClampNeg) (some (n + 63)))))))) := fx174
  refine hp_aast (r := (RX4, TX4, 2)) hx hb hZ 5 4 fx174 rfl g172 rfl (by unfold vp_in; decide) dX11_init_91 (fun V175 _ _ e176 o177 hZ => ?_)
  have e176 : V175 (n + 62) = some (.inl (cs 5, 8, .inr (.inr (.inr (.inr (va_up (va_up (fun _ => none) ((0 : Int32).toNatClampNeg) (some (n + 63))) ((1 : Int32).toNatClampNeg) (some (n + 66)))))))) := e176
  refine lv_iinc (v := 2) (lv' := [(1, .int (2)), (0, .ref (a))]) hx hb dX11_init_92 hl (k := 0) rfl (by decide) (by decide) rfl (fun ls hl => ?_)
  refine lv_goto (tgt := 73) hx hb dX11_init_95 (by decide) ?_
  refine lv_iload_n hx hb dX11_init_73 rfl (lv_at hl 0 rfl) ?_
  refine lv_bipush (v := 8) hx hb dX11_init_74 (by decide) ?_
  refine lv_icmp_ge (tgt := 98) hx hb dX11_init_76 (by decide) (fun c178 => absurd c178 (by decide)) (fun c178 => ?_)
  refine lv_aload_n hx hb dX11_init_79 rfl (lv_at hl 1 rfl) ?_
  have fx179 := (o177 (a) (hq_lt lt_f0 62)).trans ((fr167 (a) (hq_ltn lt_f0 67) (hq_lt lt_f0 66)).trans ((o163 (a) (hq_lt lt_f0 66)).trans (fx160)))
  have fx179 : V175 (a) = some (.inr (11, [.ref (n), .ref (n + 2), .ref (n + 5), .ref (n + 46), .ref (n + 50), .ref (n + 62), .null, .int (0), .null, .null])) := fx179
  refine hp_get (v := .ref (n + 62)) hx hb hts hown hZ fx179 fl_X11_48 rfl dX11_init_80 ?_
  refine lv_iload_n hx hb dX11_init_83 rfl (lv_at hl 0 rfl) ?_
  refine hp_new hx hb hts hown hZ nw_X11_46 (Nat.le_of_ble_eq_true rfl) (Nat.le_of_ble_eq_true rfl) dX11_init_84 (fun V180 _ e181 o182 hZ => ?_)
  have e181 : V180 (n + 69) = some (.inr (4, [.null, .null])) := e181
  refine lv_dup hx hb dX11_init_87 rfl ?_
  refine hp_callv (hp_runN (As := []) (rest := [.ref (n + 69), .int (2), .ref (n + 62)]) hx hb hml hown hts (c_X4_init l D cs B V180 (n + 70) (n + 69) e181) hZ cv_X11_52 rfl rfl ⟨Nat.le_of_ble_eq_true rfl, Nat.le_of_ble_eq_true rfl⟩ rfl hl.1 rfl (Nat.le_of_ble_eq_true rfl) dX11_init_88 ⟨(Nat.le_of_ble_eq_true rfl), (Nat.le_of_ble_eq_true rfl)⟩) hZ (fun V183 n184 _ _ hw185 hZ => ?_)
  obtain ⟨hn187, g191, g192, ⟨g188, g189, -, -, -⟩, fr186⟩ := hw185
  have hn187 : n + 72 = n184 := by omega
  subst hn187
  have fx193 := (fr186 (n + 62) (hq_lts n 62 70 (by decide)) (hq_ne n 62 69 (by decide))).trans ((o182 (n + 62) (hq_ne n 62 69 (by decide))).trans (e176))
  have fx193 : V183 (n + 62) = some (.inl (cs 5, 8, .inr (.inr (.inr (.inr (va_up (va_up (fun _ => none) ((0 : Int32).toNatClampNeg) (some (n + 63))) ((1 : Int32).toNatClampNeg) (some (n + 66)))))))) := fx193
  refine hp_aast (r := (RX4, TX4, 2)) hx hb hZ 5 4 fx193 rfl g191 rfl (by unfold vp_in; decide) dX11_init_91 (fun V194 _ _ e195 o196 hZ => ?_)
  have e195 : V194 (n + 62) = some (.inl (cs 5, 8, .inr (.inr (.inr (.inr (va_up (va_up (va_up (fun _ => none) ((0 : Int32).toNatClampNeg) (some (n + 63))) ((1 : Int32).toNatClampNeg) (some (n + 66))) ((2 : Int32).toNatClampNeg) (some (n + 69)))))))) := e195
  refine lv_iinc (v := 3) (lv' := [(1, .int (3)), (0, .ref (a))]) hx hb dX11_init_92 hl (k := 0) rfl (by decide) (by decide) rfl (fun ls hl => ?_)
  refine lv_goto (tgt := 73) hx hb dX11_init_95 (by decide) ?_
  refine lv_iload_n hx hb dX11_init_73 rfl (lv_at hl 0 rfl) ?_
  refine lv_bipush (v := 8) hx hb dX11_init_74 (by decide) ?_
  refine lv_icmp_ge (tgt := 98) hx hb dX11_init_76 (by decide) (fun c197 => absurd c197 (by decide)) (fun c197 => ?_)
  refine lv_aload_n hx hb dX11_init_79 rfl (lv_at hl 1 rfl) ?_
  have fx198 := (o196 (a) (hq_lt lt_f0 62)).trans ((fr186 (a) (hq_ltn lt_f0 70) (hq_lt lt_f0 69)).trans ((o182 (a) (hq_lt lt_f0 69)).trans (fx179)))
  have fx198 : V194 (a) = some (.inr (11, [.ref (n), .ref (n + 2), .ref (n + 5), .ref (n + 46), .ref (n + 50), .ref (n + 62), .null, .int (0), .null, .null])) := fx198
  refine hp_get (v := .ref (n + 62)) hx hb hts hown hZ fx198 fl_X11_48 rfl dX11_init_80 ?_
  refine lv_iload_n hx hb dX11_init_83 rfl (lv_at hl 0 rfl) ?_
  refine hp_new hx hb hts hown hZ nw_X11_46 (Nat.le_of_ble_eq_true rfl) (Nat.le_of_ble_eq_true rfl) dX11_init_84 (fun V199 _ e200 o201 hZ => ?_)
  have e200 : V199 (n + 72) = some (.inr (4, [.null, .null])) := e200
  refine lv_dup hx hb dX11_init_87 rfl ?_
  refine hp_callv (hp_runN (As := []) (rest := [.ref (n + 72), .int (3), .ref (n + 62)]) hx hb hml hown hts (c_X4_init l D cs B V199 (n + 73) (n + 72) e200) hZ cv_X11_52 rfl rfl ⟨Nat.le_of_ble_eq_true rfl, Nat.le_of_ble_eq_true rfl⟩ rfl hl.1 rfl (Nat.le_of_ble_eq_true rfl) dX11_init_88 ⟨(Nat.le_of_ble_eq_true rfl), (Nat.le_of_ble_eq_true rfl)⟩) hZ (fun V202 n203 _ _ hw204 hZ => ?_)
  obtain ⟨hn206, g210, g211, ⟨g207, g208, -, -, -⟩, fr205⟩ := hw204
  have hn206 : n + 75 = n203 := by omega
  subst hn206
  have fx212 := (fr205 (n + 62) (hq_lts n 62 73 (by decide)) (hq_ne n 62 72 (by decide))).trans ((o201 (n + 62) (hq_ne n 62 72 (by decide))).trans (e195))
  have fx212 : V202 (n + 62) = some (.inl (cs 5, 8, .inr (.inr (.inr (.inr (va_up (va_up (va_up (fun _ => none) ((0 : Int32).toNatClampNeg) (some (n + 63))) ((1 : Int32).toNatClampNeg) (some (n + 66))) ((2 : Int32).toNatClampNeg) (some (n + 69)))))))) := fx212
  refine hp_aast (r := (RX4, TX4, 2)) hx hb hZ 5 4 fx212 rfl g210 rfl (by unfold vp_in; decide) dX11_init_91 (fun V213 _ _ e214 o215 hZ => ?_)
  have e214 : V213 (n + 62) = some (.inl (cs 5, 8, .inr (.inr (.inr (.inr (va_up (va_up (va_up (va_up (fun _ => none) ((0 : Int32).toNatClampNeg) (some (n + 63))) ((1 : Int32).toNatClampNeg) (some (n + 66))) ((2 : Int32).toNatClampNeg) (some (n + 69))) ((3 : Int32).toNatClampNeg) (some (n + 72)))))))) := e214
  refine lv_iinc (v := 4) (lv' := [(1, .int (4)), (0, .ref (a))]) hx hb dX11_init_92 hl (k := 0) rfl (by decide) (by decide) rfl (fun ls hl => ?_)
  refine lv_goto (tgt := 73) hx hb dX11_init_95 (by decide) ?_
  refine lv_iload_n hx hb dX11_init_73 rfl (lv_at hl 0 rfl) ?_
  refine lv_bipush (v := 8) hx hb dX11_init_74 (by decide) ?_
  refine lv_icmp_ge (tgt := 98) hx hb dX11_init_76 (by decide) (fun c216 => absurd c216 (by decide)) (fun c216 => ?_)
  refine lv_aload_n hx hb dX11_init_79 rfl (lv_at hl 1 rfl) ?_
  have fx217 := (o215 (a) (hq_lt lt_f0 62)).trans ((fr205 (a) (hq_ltn lt_f0 73) (hq_lt lt_f0 72)).trans ((o201 (a) (hq_lt lt_f0 72)).trans (fx198)))
  have fx217 : V213 (a) = some (.inr (11, [.ref (n), .ref (n + 2), .ref (n + 5), .ref (n + 46), .ref (n + 50), .ref (n + 62), .null, .int (0), .null, .null])) := fx217
  refine hp_get (v := .ref (n + 62)) hx hb hts hown hZ fx217 fl_X11_48 rfl dX11_init_80 ?_
  refine lv_iload_n hx hb dX11_init_83 rfl (lv_at hl 0 rfl) ?_
  refine hp_new hx hb hts hown hZ nw_X11_46 (Nat.le_of_ble_eq_true rfl) (Nat.le_of_ble_eq_true rfl) dX11_init_84 (fun V218 _ e219 o220 hZ => ?_)
  have e219 : V218 (n + 75) = some (.inr (4, [.null, .null])) := e219
  refine lv_dup hx hb dX11_init_87 rfl ?_
  refine hp_callv (hp_runN (As := []) (rest := [.ref (n + 75), .int (4), .ref (n + 62)]) hx hb hml hown hts (c_X4_init l D cs B V218 (n + 76) (n + 75) e219) hZ cv_X11_52 rfl rfl ⟨Nat.le_of_ble_eq_true rfl, Nat.le_of_ble_eq_true rfl⟩ rfl hl.1 rfl (Nat.le_of_ble_eq_true rfl) dX11_init_88 ⟨(Nat.le_of_ble_eq_true rfl), (Nat.le_of_ble_eq_true rfl)⟩) hZ (fun V221 n222 _ _ hw223 hZ => ?_)
  obtain ⟨hn225, g229, g230, ⟨g226, g227, -, -, -⟩, fr224⟩ := hw223
  have hn225 : n + 78 = n222 := by omega
  subst hn225
  have fx231 := (fr224 (n + 62) (hq_lts n 62 76 (by decide)) (hq_ne n 62 75 (by decide))).trans ((o220 (n + 62) (hq_ne n 62 75 (by decide))).trans (e214))
  have fx231 : V221 (n + 62) = some (.inl (cs 5, 8, .inr (.inr (.inr (.inr (va_up (va_up (va_up (va_up (fun _ => none) ((0 : Int32).toNatClampNeg) (some (n + 63))) ((1 : Int32).toNatClampNeg) (some (n + 66))) ((2 : Int32).toNatClampNeg) (some (n + 69))) ((3 : Int32).toNatClampNeg) (some (n + 72)))))))) := fx231
  refine hp_aast (r := (RX4, TX4, 2)) hx hb hZ 5 4 fx231 rfl g229 rfl (by unfold vp_in; decide) dX11_init_91 (fun V232 _ _ e233 o234 hZ => ?_)
  have e233 : V232 (n + 62) = some (.inl (cs 5, 8, .inr (.inr (.inr (.inr (va_up (va_up (va_up (va_up (va_up (fun _ => none) ((0 : Int32).toNatClampNeg) (some (n + 63))) ((1 : Int32).toNatClampNeg) (some (n + 66))) ((2 : Int32).toNatClampNeg) (some (n + 69))) ((3 : Int32).toNatClampNeg) (some (n + 72))) ((4 : Int32).toNatClampNeg) (some (n + 75)))))))) := e233
  refine lv_iinc (v := 5) (lv' := [(1, .int (5)), (0, .ref (a))]) hx hb dX11_init_92 hl (k := 0) rfl (by decide) (by decide) rfl (fun ls hl => ?_)
  refine lv_goto (tgt := 73) hx hb dX11_init_95 (by decide) ?_
  refine lv_iload_n hx hb dX11_init_73 rfl (lv_at hl 0 rfl) ?_
  refine lv_bipush (v := 8) hx hb dX11_init_74 (by decide) ?_
  refine lv_icmp_ge (tgt := 98) hx hb dX11_init_76 (by decide) (fun c235 => absurd c235 (by decide)) (fun c235 => ?_)
  refine lv_aload_n hx hb dX11_init_79 rfl (lv_at hl 1 rfl) ?_
  have fx236 := (o234 (a) (hq_lt lt_f0 62)).trans ((fr224 (a) (hq_ltn lt_f0 76) (hq_lt lt_f0 75)).trans ((o220 (a) (hq_lt lt_f0 75)).trans (fx217)))
  have fx236 : V232 (a) = some (.inr (11, [.ref (n), .ref (n + 2), .ref (n + 5), .ref (n + 46), .ref (n + 50), .ref (n + 62), .null, .int (0), .null, .null])) := fx236
  refine hp_get (v := .ref (n + 62)) hx hb hts hown hZ fx236 fl_X11_48 rfl dX11_init_80 ?_
  refine lv_iload_n hx hb dX11_init_83 rfl (lv_at hl 0 rfl) ?_
  refine hp_new hx hb hts hown hZ nw_X11_46 (Nat.le_of_ble_eq_true rfl) (Nat.le_of_ble_eq_true rfl) dX11_init_84 (fun V237 _ e238 o239 hZ => ?_)
  have e238 : V237 (n + 78) = some (.inr (4, [.null, .null])) := e238
  refine lv_dup hx hb dX11_init_87 rfl ?_
  refine hp_callv (hp_runN (As := []) (rest := [.ref (n + 78), .int (5), .ref (n + 62)]) hx hb hml hown hts (c_X4_init l D cs B V237 (n + 79) (n + 78) e238) hZ cv_X11_52 rfl rfl ⟨Nat.le_of_ble_eq_true rfl, Nat.le_of_ble_eq_true rfl⟩ rfl hl.1 rfl (Nat.le_of_ble_eq_true rfl) dX11_init_88 ⟨(Nat.le_of_ble_eq_true rfl), (Nat.le_of_ble_eq_true rfl)⟩) hZ (fun V240 n241 _ _ hw242 hZ => ?_)
  obtain ⟨hn244, g248, g249, ⟨g245, g246, -, -, -⟩, fr243⟩ := hw242
  have hn244 : n + 81 = n241 := by omega
  subst hn244
  have fx250 := (fr243 (n + 62) (hq_lts n 62 79 (by decide)) (hq_ne n 62 78 (by decide))).trans ((o239 (n + 62) (hq_ne n 62 78 (by decide))).trans (e233))
  have fx250 : V240 (n + 62) = some (.inl (cs 5, 8, .inr (.inr (.inr (.inr (va_up (va_up (va_up (va_up (va_up (fun _ => none) ((0 : Int32).toNatClampNeg) (some (n + 63))) ((1 : Int32).toNatClampNeg) (some (n + 66))) ((2 : Int32).toNatClampNeg) (some (n + 69))) ((3 : Int32).toNatClampNeg) (some (n + 72))) ((4 : Int32).toNatClampNeg) (some (n + 75)))))))) := fx250
  refine hp_aast (r := (RX4, TX4, 2)) hx hb hZ 5 4 fx250 rfl g248 rfl (by unfold vp_in; decide) dX11_init_91 (fun V251 _ _ e252 o253 hZ => ?_)
  have e252 : V251 (n + 62) = some (.inl (cs 5, 8, .inr (.inr (.inr (.inr (va_up (va_up (va_up (va_up (va_up (va_up (fun _ => none) ((0 : Int32).toNatClampNeg) (some (n + 63))) ((1 : Int32).toNatClampNeg) (some (n + 66))) ((2 : Int32).toNatClampNeg) (some (n + 69))) ((3 : Int32).toNatClampNeg) (some (n + 72))) ((4 : Int32).toNatClampNeg) (some (n + 75))) ((5 : Int32).toNatClampNeg) (some (n + 78)))))))) := e252
  refine lv_iinc (v := 6) (lv' := [(1, .int (6)), (0, .ref (a))]) hx hb dX11_init_92 hl (k := 0) rfl (by decide) (by decide) rfl (fun ls hl => ?_)
  refine lv_goto (tgt := 73) hx hb dX11_init_95 (by decide) ?_
  refine lv_iload_n hx hb dX11_init_73 rfl (lv_at hl 0 rfl) ?_
  refine lv_bipush (v := 8) hx hb dX11_init_74 (by decide) ?_
  refine lv_icmp_ge (tgt := 98) hx hb dX11_init_76 (by decide) (fun c254 => absurd c254 (by decide)) (fun c254 => ?_)
  refine lv_aload_n hx hb dX11_init_79 rfl (lv_at hl 1 rfl) ?_
  have fx255 := (o253 (a) (hq_lt lt_f0 62)).trans ((fr243 (a) (hq_ltn lt_f0 79) (hq_lt lt_f0 78)).trans ((o239 (a) (hq_lt lt_f0 78)).trans (fx236)))
  have fx255 : V251 (a) = some (.inr (11, [.ref (n), .ref (n + 2), .ref (n + 5), .ref (n + 46), .ref (n + 50), .ref (n + 62), .null, .int (0), .null, .null])) := fx255
  refine hp_get (v := .ref (n + 62)) hx hb hts hown hZ fx255 fl_X11_48 rfl dX11_init_80 ?_
  refine lv_iload_n hx hb dX11_init_83 rfl (lv_at hl 0 rfl) ?_
  refine hp_new hx hb hts hown hZ nw_X11_46 (Nat.le_of_ble_eq_true rfl) (Nat.le_of_ble_eq_true rfl) dX11_init_84 (fun V256 _ e257 o258 hZ => ?_)
  have e257 : V256 (n + 81) = some (.inr (4, [.null, .null])) := e257
  refine lv_dup hx hb dX11_init_87 rfl ?_
  refine hp_callv (hp_runN (As := []) (rest := [.ref (n + 81), .int (6), .ref (n + 62)]) hx hb hml hown hts (c_X4_init l D cs B V256 (n + 82) (n + 81) e257) hZ cv_X11_52 rfl rfl ⟨Nat.le_of_ble_eq_true rfl, Nat.le_of_ble_eq_true rfl⟩ rfl hl.1 rfl (Nat.le_of_ble_eq_true rfl) dX11_init_88 ⟨(Nat.le_of_ble_eq_true rfl), (Nat.le_of_ble_eq_true rfl)⟩) hZ (fun V259 n260 _ _ hw261 hZ => ?_)
  obtain ⟨hn263, g267, g268, ⟨g264, g265, -, -, -⟩, fr262⟩ := hw261
  have hn263 : n + 84 = n260 := by omega
  subst hn263
  have fx269 := (fr262 (n + 62) (hq_lts n 62 82 (by decide)) (hq_ne n 62 81 (by decide))).trans ((o258 (n + 62) (hq_ne n 62 81 (by decide))).trans (e252))
  have fx269 : V259 (n + 62) = some (.inl (cs 5, 8, .inr (.inr (.inr (.inr (va_up (va_up (va_up (va_up (va_up (va_up (fun _ => none) ((0 : Int32).toNatClampNeg) (some (n + 63))) ((1 : Int32).toNatClampNeg) (some (n + 66))) ((2 : Int32).toNatClampNeg) (some (n + 69))) ((3 : Int32).toNatClampNeg) (some (n + 72))) ((4 : Int32).toNatClampNeg) (some (n + 75))) ((5 : Int32).toNatClampNeg) (some (n + 78)))))))) := fx269
  refine hp_aast (r := (RX4, TX4, 2)) hx hb hZ 5 4 fx269 rfl g267 rfl (by unfold vp_in; decide) dX11_init_91 (fun V270 _ _ e271 o272 hZ => ?_)
  have e271 : V270 (n + 62) = some (.inl (cs 5, 8, .inr (.inr (.inr (.inr (va_up (va_up (va_up (va_up (va_up (va_up (va_up (fun _ => none) ((0 : Int32).toNatClampNeg) (some (n + 63))) ((1 : Int32).toNatClampNeg) (some (n + 66))) ((2 : Int32).toNatClampNeg) (some (n + 69))) ((3 : Int32).toNatClampNeg) (some (n + 72))) ((4 : Int32).toNatClampNeg) (some (n + 75))) ((5 : Int32).toNatClampNeg) (some (n + 78))) ((6 : Int32).toNatClampNeg) (some (n + 81)))))))) := e271
  refine lv_iinc (v := 7) (lv' := [(1, .int (7)), (0, .ref (a))]) hx hb dX11_init_92 hl (k := 0) rfl (by decide) (by decide) rfl (fun ls hl => ?_)
  refine lv_goto (tgt := 73) hx hb dX11_init_95 (by decide) ?_
  refine lv_iload_n hx hb dX11_init_73 rfl (lv_at hl 0 rfl) ?_
  refine lv_bipush (v := 8) hx hb dX11_init_74 (by decide) ?_
  refine lv_icmp_ge (tgt := 98) hx hb dX11_init_76 (by decide) (fun c273 => absurd c273 (by decide)) (fun c273 => ?_)
  refine lv_aload_n hx hb dX11_init_79 rfl (lv_at hl 1 rfl) ?_
  have fx274 := (o272 (a) (hq_lt lt_f0 62)).trans ((fr262 (a) (hq_ltn lt_f0 82) (hq_lt lt_f0 81)).trans ((o258 (a) (hq_lt lt_f0 81)).trans (fx255)))
  have fx274 : V270 (a) = some (.inr (11, [.ref (n), .ref (n + 2), .ref (n + 5), .ref (n + 46), .ref (n + 50), .ref (n + 62), .null, .int (0), .null, .null])) := fx274
  refine hp_get (v := .ref (n + 62)) hx hb hts hown hZ fx274 fl_X11_48 rfl dX11_init_80 ?_
  refine lv_iload_n hx hb dX11_init_83 rfl (lv_at hl 0 rfl) ?_
  refine hp_new hx hb hts hown hZ nw_X11_46 (Nat.le_of_ble_eq_true rfl) (Nat.le_of_ble_eq_true rfl) dX11_init_84 (fun V275 _ e276 o277 hZ => ?_)
  have e276 : V275 (n + 84) = some (.inr (4, [.null, .null])) := e276
  refine lv_dup hx hb dX11_init_87 rfl ?_
  refine hp_callv (hp_runN (As := []) (rest := [.ref (n + 84), .int (7), .ref (n + 62)]) hx hb hml hown hts (c_X4_init l D cs B V275 (n + 85) (n + 84) e276) hZ cv_X11_52 rfl rfl ⟨Nat.le_of_ble_eq_true rfl, Nat.le_of_ble_eq_true rfl⟩ rfl hl.1 rfl (Nat.le_of_ble_eq_true rfl) dX11_init_88 ⟨(Nat.le_of_ble_eq_true rfl), (Nat.le_of_ble_eq_true rfl)⟩) hZ (fun V278 n279 _ _ hw280 hZ => ?_)
  obtain ⟨hn282, g286, g287, ⟨g283, g284, -, -, -⟩, fr281⟩ := hw280
  have hn282 : n + 87 = n279 := by omega
  subst hn282
  have fx288 := (fr281 (n + 62) (hq_lts n 62 85 (by decide)) (hq_ne n 62 84 (by decide))).trans ((o277 (n + 62) (hq_ne n 62 84 (by decide))).trans (e271))
  have fx288 : V278 (n + 62) = some (.inl (cs 5, 8, .inr (.inr (.inr (.inr (va_up (va_up (va_up (va_up (va_up (va_up (va_up (fun _ => none) ((0 : Int32).toNatClampNeg) (some (n + 63))) ((1 : Int32).toNatClampNeg) (some (n + 66))) ((2 : Int32).toNatClampNeg) (some (n + 69))) ((3 : Int32).toNatClampNeg) (some (n + 72))) ((4 : Int32).toNatClampNeg) (some (n + 75))) ((5 : Int32).toNatClampNeg) (some (n + 78))) ((6 : Int32).toNatClampNeg) (some (n + 81)))))))) := fx288
  refine hp_aast (r := (RX4, TX4, 2)) hx hb hZ 5 4 fx288 rfl g286 rfl (by unfold vp_in; decide) dX11_init_91 (fun V289 _ _ e290 o291 hZ => ?_)
  have e290 : V289 (n + 62) = some (.inl (cs 5, 8, .inr (.inr (.inr (.inr (va_up (va_up (va_up (va_up (va_up (va_up (va_up (va_up (fun _ => none) ((0 : Int32).toNatClampNeg) (some (n + 63))) ((1 : Int32).toNatClampNeg) (some (n + 66))) ((2 : Int32).toNatClampNeg) (some (n + 69))) ((3 : Int32).toNatClampNeg) (some (n + 72))) ((4 : Int32).toNatClampNeg) (some (n + 75))) ((5 : Int32).toNatClampNeg) (some (n + 78))) ((6 : Int32).toNatClampNeg) (some (n + 81))) ((7 : Int32).toNatClampNeg) (some (n + 84)))))))) := e290
  refine lv_iinc (v := 8) (lv' := [(1, .int (8)), (0, .ref (a))]) hx hb dX11_init_92 hl (k := 0) rfl (by decide) (by decide) rfl (fun ls hl => ?_)
  refine lv_goto (tgt := 73) hx hb dX11_init_95 (by decide) ?_
  refine lv_iload_n hx hb dX11_init_73 rfl (lv_at hl 0 rfl) ?_
  refine lv_bipush (v := 8) hx hb dX11_init_74 (by decide) ?_
  refine lv_icmp_ge (tgt := 98) hx hb dX11_init_76 (by decide) (fun c292 => ?_) (fun c292 => absurd (by decide) c292)
  refine lv_aload_n hx hb dX11_init_98 rfl (lv_at hl 1 rfl) ?_
  refine lv_bipush (v := 60) hx hb dX11_init_99 (by decide) ?_
  refine hp_newa (ty := .int) (t0 := 1) (cA := cs 1) (N := 60) (a0 := (60, .inl (fun _ => 0))) hx hb hts hZ rfl ac_int rfl rfl (fun _ => rfl) (by decide) (by decide) (by decide) (Nat.le_of_ble_eq_true rfl) (Nat.le_of_ble_eq_true rfl) dX11_init_101 (fun V293 _ e294 o295 hZ => ?_)
  have e294 : V293 (n + 87) = some (.inl (cs 1, 60, .inl (fun _ => 0))) := e294
  have fx296 := (o295 (a) (hq_lt lt_f0 87)).trans ((o291 (a) (hq_lt lt_f0 62)).trans ((fr281 (a) (hq_ltn lt_f0 85) (hq_lt lt_f0 84)).trans ((o277 (a) (hq_lt lt_f0 84)).trans (fx274))))
  have fx296 : V293 (a) = some (.inr (11, [.ref (n), .ref (n + 2), .ref (n + 5), .ref (n + 46), .ref (n + 50), .ref (n + 62), .null, .int (0), .null, .null])) := fx296
  refine hp_putF hx hb hts hown hin hZ fx296 fp_X11_53 rfl rfl (Nat.le_of_ble_eq_true rfl) dX11_init_103 (fun V297 _ _ e298 o299 hZ => ?_)
  have e298 : V297 (a) = some (.inr (11, [.ref (n), .ref (n + 2), .ref (n + 5), .ref (n + 46), .ref (n + 50), .ref (n + 62), .ref (n + 87), .int (0), .null, .null])) := e298
  refine lv_aload_n hx hb dX11_init_106 rfl (lv_at hl 1 rfl) ?_
  refine lv_iconst (v := 0) hx hb dX11_init_107 (by decide) ?_
  refine hp_put hx hb hts hown hZ e298 fp_X11_57 rfl rfl (Nat.le_of_ble_eq_true rfl) dX11_init_108 (fun V300 _ _ e301 o302 hZ => ?_)
  have e301 : V300 (a) = some (.inr (11, [.ref (n), .ref (n + 2), .ref (n + 5), .ref (n + 46), .ref (n + 50), .ref (n + 62), .ref (n + 87), .int (0), .null, .null])) := e301
  refine lv_aload_n hx hb dX11_init_111 rfl (lv_at hl 1 rfl) ?_
  refine hp_new hx hb hts hown hZ nw_X11_61 (Nat.le_of_ble_eq_true rfl) (Nat.le_of_ble_eq_true rfl) dX11_init_112 (fun V303 _ e304 o305 hZ => ?_)
  have e304 : V303 (n + 88) = some (.inr (0, [.null, .int (0), .null, .null, .int (0), .null, .int (0)])) := e304
  refine lv_dup hx hb dX11_init_115 rfl ?_
  refine hp_callv (hp_runN (As := []) (rest := [.ref (n + 88), .ref (a)]) hx hb hml hown hts (c_X0_init l D cs B V303 (n + 89) (n + 88) e304) hZ cv_X11_63 rfl rfl ⟨Nat.le_of_ble_eq_true rfl, Nat.le_of_ble_eq_true rfl⟩ rfl hl.1 rfl (Nat.le_of_ble_eq_true rfl) dX11_init_116 ⟨(Nat.le_of_ble_eq_true rfl), (Nat.le_of_ble_eq_true rfl)⟩) hZ (fun V306 n307 _ _ hw308 hZ => ?_)
  obtain ⟨hn310, hbk311, fr309⟩ := hw308
  have hn310 : n + 465 = n307 := by omega
  subst hn310
  have fx312 := (fr309 (a) (hq_ltn lt_f0 89) (hq_lt lt_f0 88)).trans ((o305 (a) (hq_lt lt_f0 88)).trans (e301))
  have fx312 : V306 (a) = some (.inr (11, [.ref (n), .ref (n + 2), .ref (n + 5), .ref (n + 46), .ref (n + 50), .ref (n + 62), .ref (n + 87), .int (0), .null, .null])) := fx312
  refine hp_put hx hb hts hown hZ fx312 fp_X11_64 rfl rfl (Nat.le_of_ble_eq_true rfl) dX11_init_119 (fun V313 _ _ e314 o315 hZ => ?_)
  have e314 : V313 (a) = some (.inr (11, [.ref (n), .ref (n + 2), .ref (n + 5), .ref (n + 46), .ref (n + 50), .ref (n + 62), .ref (n + 87), .int (0), .ref (n + 88), .null])) := e314
  refine lv_aload_n hx hb dX11_init_122 rfl (lv_at hl 1 rfl) ?_
  refine hp_new hx hb hts hown hZ nw_X11_61 (Nat.le_of_ble_eq_true rfl) (Nat.le_of_ble_eq_true rfl) dX11_init_123 (fun V316 _ e317 o318 hZ => ?_)
  have e317 : V316 (n + 465) = some (.inr (0, [.null, .int (0), .null, .null, .int (0), .null, .int (0)])) := e317
  refine lv_dup hx hb dX11_init_126 rfl ?_
  refine hp_callv (hp_runN (As := []) (rest := [.ref (n + 465), .ref (a)]) hx hb hml hown hts (c_X0_init l D cs B V316 (n + 466) (n + 465) e317) hZ cv_X11_63 rfl rfl ⟨Nat.le_of_ble_eq_true rfl, Nat.le_of_ble_eq_true rfl⟩ rfl hl.1 rfl (Nat.le_of_ble_eq_true rfl) dX11_init_127 ⟨(Nat.le_of_ble_eq_true rfl), (Nat.le_of_ble_eq_true rfl)⟩) hZ (fun V319 n320 _ _ hw321 hZ => ?_)
  obtain ⟨hn323, hbk324, fr322⟩ := hw321
  have hn323 : n + 842 = n320 := by omega
  subst hn323
  have fx325 := (fr322 (a) (hq_ltn lt_f0 466) (hq_lt lt_f0 465)).trans ((o318 (a) (hq_lt lt_f0 465)).trans (e314))
  have fx325 : V319 (a) = some (.inr (11, [.ref (n), .ref (n + 2), .ref (n + 5), .ref (n + 46), .ref (n + 50), .ref (n + 62), .ref (n + 87), .int (0), .ref (n + 88), .null])) := fx325
  refine hp_put hx hb hts hown hZ fx325 fp_X11_68 rfl rfl (Nat.le_of_ble_eq_true rfl) dX11_init_130 (fun V326 _ _ e327 o328 hZ => ?_)
  have e327 : V326 (a) = some (.inr (11, [.ref (n), .ref (n + 2), .ref (n + 5), .ref (n + 46), .ref (n + 50), .ref (n + 62), .ref (n + 87), .int (0), .ref (n + 88), .ref (n + 465)])) := e327
  have rg329 := fun (x7 : Nat) (hx7 : n + 0 ≤ x7 ∧ x7 ≤ n + 1) => (o328 (x7) (by omega)).trans ((fr322 (x7) (by omega) (by omega)).trans ((o318 (x7) (by omega)).trans ((o315 (x7) (by omega)).trans ((fr309 (x7) (by omega) (by omega)).trans ((o305 (x7) (by omega)).trans ((o302 (x7) (by omega)).trans ((o299 (x7) (by omega)).trans ((o295 (x7) (by omega)).trans ((o291 (x7) (by omega)).trans ((fr281 (x7) (by omega) (by omega)).trans ((o277 (x7) (by omega)).trans ((o272 (x7) (by omega)).trans ((fr262 (x7) (by omega) (by omega)).trans ((o258 (x7) (by omega)).trans ((o253 (x7) (by omega)).trans ((fr243 (x7) (by omega) (by omega)).trans ((o239 (x7) (by omega)).trans ((o234 (x7) (by omega)).trans ((fr224 (x7) (by omega) (by omega)).trans ((o220 (x7) (by omega)).trans ((o215 (x7) (by omega)).trans ((fr205 (x7) (by omega) (by omega)).trans ((o201 (x7) (by omega)).trans ((o196 (x7) (by omega)).trans ((fr186 (x7) (by omega) (by omega)).trans ((o182 (x7) (by omega)).trans ((o177 (x7) (by omega)).trans ((fr167 (x7) (by omega) (by omega)).trans ((o163 (x7) (by omega)).trans ((o158 (x7) (by omega)).trans ((fr148 (x7) (by omega) (by omega)).trans ((o144 (x7) (by omega)).trans ((o140 (x7) (by omega)).trans ((o136 (x7) (by omega)).trans ((o133 (x7) (by omega)).trans ((fr116 (x7) (by omega) (by omega)).trans ((o112 (x7) (by omega)).trans ((o109 (x7) (by omega)).trans ((fr100 (x7) (by omega) (by omega)).trans ((o96 (x7) (by omega)).trans ((o93 (x7) (by omega)).trans ((fr36 (x7) (by omega) (by omega)).trans ((o32 (x7) (by omega)).trans ((o29 (x7) (by omega)).trans ((fr21 (x7) (by omega) (by omega)).trans ((o17 (x7) (by omega)).trans (o14 (x7) (by omega))))))))))))))))))))))))))))))))))))))))))))))))
  have fx330 : V326 (n) = some (.inr (9, [.ref (n + 1), .int (0)])) := (rg329 (n) (by omega)).trans (g9)
  have fx331 : V326 (n + 1) = some (.inl (cs 0, 4000, .inl (fun _ => 0))) := (rg329 (n + 1) (by omega)).trans (g10)
  have rg332 := fun (x7 : Nat) (hx7 : n + 2 ≤ x7 ∧ x7 ≤ n + 4) => (o328 (x7) (by omega)).trans ((fr322 (x7) (by omega) (by omega)).trans ((o318 (x7) (by omega)).trans ((o315 (x7) (by omega)).trans ((fr309 (x7) (by omega) (by omega)).trans ((o305 (x7) (by omega)).trans ((o302 (x7) (by omega)).trans ((o299 (x7) (by omega)).trans ((o295 (x7) (by omega)).trans ((o291 (x7) (by omega)).trans ((fr281 (x7) (by omega) (by omega)).trans ((o277 (x7) (by omega)).trans ((o272 (x7) (by omega)).trans ((fr262 (x7) (by omega) (by omega)).trans ((o258 (x7) (by omega)).trans ((o253 (x7) (by omega)).trans ((fr243 (x7) (by omega) (by omega)).trans ((o239 (x7) (by omega)).trans ((o234 (x7) (by omega)).trans ((fr224 (x7) (by omega) (by omega)).trans ((o220 (x7) (by omega)).trans ((o215 (x7) (by omega)).trans ((fr205 (x7) (by omega) (by omega)).trans ((o201 (x7) (by omega)).trans ((o196 (x7) (by omega)).trans ((fr186 (x7) (by omega) (by omega)).trans ((o182 (x7) (by omega)).trans ((o177 (x7) (by omega)).trans ((fr167 (x7) (by omega) (by omega)).trans ((o163 (x7) (by omega)).trans ((o158 (x7) (by omega)).trans ((fr148 (x7) (by omega) (by omega)).trans ((o144 (x7) (by omega)).trans ((o140 (x7) (by omega)).trans ((o136 (x7) (by omega)).trans ((o133 (x7) (by omega)).trans ((fr116 (x7) (by omega) (by omega)).trans ((o112 (x7) (by omega)).trans ((o109 (x7) (by omega)).trans ((fr100 (x7) (by omega) (by omega)).trans ((o96 (x7) (by omega)).trans ((o93 (x7) (by omega)).trans ((fr36 (x7) (by omega) (by omega)).trans ((o32 (x7) (by omega)).trans (o29 (x7) (by omega)))))))))))))))))))))))))))))))))))))))))))))
  have fx333 : V326 (n + 2) = some (.inr (7, [.int (0), .int (-1), .null, .null, .int (0), .int (0), .int (0), .ref (n + 3)])) := (rg332 (n + 2) (by omega)).trans (g23)
  have fx334 : V326 (n + 3) = some (.inr (9, [.ref (n + 4), .int (0)])) := (rg332 (n + 3) (by omega)).trans (g24)
  have fx335 : V326 (n + 4) = some (.inl (cs 0, 12, .inl (fun _ => 0))) := (rg332 (n + 4) (by omega)).trans (g25)
  have rg336 := fun (x7 : Nat) (hx7 : n + 5 ≤ x7 ∧ x7 ≤ n + 45) => (o328 (x7) (by omega)).trans ((fr322 (x7) (by omega) (by omega)).trans ((o318 (x7) (by omega)).trans ((o315 (x7) (by omega)).trans ((fr309 (x7) (by omega) (by omega)).trans ((o305 (x7) (by omega)).trans ((o302 (x7) (by omega)).trans ((o299 (x7) (by omega)).trans ((o295 (x7) (by omega)).trans ((o291 (x7) (by omega)).trans ((fr281 (x7) (by omega) (by omega)).trans ((o277 (x7) (by omega)).trans ((o272 (x7) (by omega)).trans ((fr262 (x7) (by omega) (by omega)).trans ((o258 (x7) (by omega)).trans ((o253 (x7) (by omega)).trans ((fr243 (x7) (by omega) (by omega)).trans ((o239 (x7) (by omega)).trans ((o234 (x7) (by omega)).trans ((fr224 (x7) (by omega) (by omega)).trans ((o220 (x7) (by omega)).trans ((o215 (x7) (by omega)).trans ((fr205 (x7) (by omega) (by omega)).trans ((o201 (x7) (by omega)).trans ((o196 (x7) (by omega)).trans ((fr186 (x7) (by omega) (by omega)).trans ((o182 (x7) (by omega)).trans ((o177 (x7) (by omega)).trans ((fr167 (x7) (by omega) (by omega)).trans ((o163 (x7) (by omega)).trans ((o158 (x7) (by omega)).trans ((fr148 (x7) (by omega) (by omega)).trans ((o144 (x7) (by omega)).trans ((o140 (x7) (by omega)).trans ((o136 (x7) (by omega)).trans ((o133 (x7) (by omega)).trans ((fr116 (x7) (by omega) (by omega)).trans ((o112 (x7) (by omega)).trans ((o109 (x7) (by omega)).trans ((fr100 (x7) (by omega) (by omega)).trans ((o96 (x7) (by omega)).trans (o93 (x7) (by omega))))))))))))))))))))))))))))))))))))))))))
  have fx337 : V326 (n + 5) = some (.inr (6, [.ref (n + 6), .int (0), .ref (n + 24), .ref (n + 34), .ref (n + 44)])) := (rg336 (n + 5) (by omega)).trans (g38)
  have fx338 : V326 (n + 6) = some (.inr (3, [.ref (n + 7), .int (0)])) := (rg336 (n + 6) (by omega)).trans (g39)
  have fx339 : V326 (n + 7) = some (.inl (cs 4, 4, .inr (.inr (.inr (.inr (g76)))))) := (rg336 (n + 7) (by omega)).trans (g77)
  have fx340 : V326 (n + 8) = some (.inr (2, [.ref (n + 9), .ref (n + 11), .int (0)])) := (rg336 (n + 8) (by omega)).trans (g40)
  have fx341 : V326 (n + 9) = some (.inr (9, [.ref (n + 10), .int (0)])) := (rg336 (n + 9) (by omega)).trans (g41)
  have fx342 : V326 (n + 10) = some (.inl (cs 0, 30, .inl (fun _ => 0))) := (rg336 (n + 10) (by omega)).trans (g42)
  have fx343 : V326 (n + 11) = some (.inl (cs 1, 120, .inl (fun _ => 0))) := (rg336 (n + 11) (by omega)).trans (g43)
  have fx344 : V326 (n + 12) = some (.inr (2, [.ref (n + 13), .ref (n + 15), .int (0)])) := (rg336 (n + 12) (by omega)).trans (g44)
  have fx345 : V326 (n + 13) = some (.inr (9, [.ref (n + 14), .int (0)])) := (rg336 (n + 13) (by omega)).trans (g45)
  have fx346 : V326 (n + 14) = some (.inl (cs 0, 30, .inl (fun _ => 0))) := (rg336 (n + 14) (by omega)).trans (g46)
  have fx347 : V326 (n + 15) = some (.inl (cs 1, 120, .inl (fun _ => 0))) := (rg336 (n + 15) (by omega)).trans (g47)
  have fx348 : V326 (n + 16) = some (.inr (2, [.ref (n + 17), .ref (n + 19), .int (0)])) := (rg336 (n + 16) (by omega)).trans (g48)
  have fx349 : V326 (n + 17) = some (.inr (9, [.ref (n + 18), .int (0)])) := (rg336 (n + 17) (by omega)).trans (g49)
  have fx350 : V326 (n + 18) = some (.inl (cs 0, 30, .inl (fun _ => 0))) := (rg336 (n + 18) (by omega)).trans (g50)
  have fx351 : V326 (n + 19) = some (.inl (cs 1, 120, .inl (fun _ => 0))) := (rg336 (n + 19) (by omega)).trans (g51)
  have fx352 : V326 (n + 20) = some (.inr (2, [.ref (n + 21), .ref (n + 23), .int (0)])) := (rg336 (n + 20) (by omega)).trans (g52)
  have fx353 : V326 (n + 21) = some (.inr (9, [.ref (n + 22), .int (0)])) := (rg336 (n + 21) (by omega)).trans (g53)
  have fx354 : V326 (n + 22) = some (.inl (cs 0, 30, .inl (fun _ => 0))) := (rg336 (n + 22) (by omega)).trans (g54)
  have fx355 : V326 (n + 23) = some (.inl (cs 1, 120, .inl (fun _ => 0))) := (rg336 (n + 23) (by omega)).trans (g55)
  have fx356 : V326 (n + 24) = some (.inr (3, [.ref (n + 25), .int (0)])) := (rg336 (n + 24) (by omega)).trans (g56)
  have fx357 : V326 (n + 25) = some (.inl (cs 4, 2, .inr (.inr (.inr (.inr (g82)))))) := (rg336 (n + 25) (by omega)).trans (g83)
  have fx358 : V326 (n + 26) = some (.inr (2, [.ref (n + 27), .ref (n + 29), .int (0)])) := (rg336 (n + 26) (by omega)).trans (g57)
  have fx359 : V326 (n + 27) = some (.inr (9, [.ref (n + 28), .int (0)])) := (rg336 (n + 27) (by omega)).trans (g58)
  have fx360 : V326 (n + 28) = some (.inl (cs 0, 30, .inl (fun _ => 0))) := (rg336 (n + 28) (by omega)).trans (g59)
  have fx361 : V326 (n + 29) = some (.inl (cs 1, 120, .inl (fun _ => 0))) := (rg336 (n + 29) (by omega)).trans (g60)
  have fx362 : V326 (n + 30) = some (.inr (2, [.ref (n + 31), .ref (n + 33), .int (0)])) := (rg336 (n + 30) (by omega)).trans (g61)
  have fx363 : V326 (n + 31) = some (.inr (9, [.ref (n + 32), .int (0)])) := (rg336 (n + 31) (by omega)).trans (g62)
  have fx364 : V326 (n + 32) = some (.inl (cs 0, 30, .inl (fun _ => 0))) := (rg336 (n + 32) (by omega)).trans (g63)
  have fx365 : V326 (n + 33) = some (.inl (cs 1, 120, .inl (fun _ => 0))) := (rg336 (n + 33) (by omega)).trans (g64)
  have fx366 : V326 (n + 34) = some (.inr (3, [.ref (n + 35), .int (0)])) := (rg336 (n + 34) (by omega)).trans (g65)
  have fx367 : V326 (n + 35) = some (.inl (cs 4, 2, .inr (.inr (.inr (.inr (g86)))))) := (rg336 (n + 35) (by omega)).trans (g87)
  have fx368 : V326 (n + 36) = some (.inr (2, [.ref (n + 37), .ref (n + 39), .int (0)])) := (rg336 (n + 36) (by omega)).trans (g66)
  have fx369 : V326 (n + 37) = some (.inr (9, [.ref (n + 38), .int (0)])) := (rg336 (n + 37) (by omega)).trans (g67)
  have fx370 : V326 (n + 38) = some (.inl (cs 0, 30, .inl (fun _ => 0))) := (rg336 (n + 38) (by omega)).trans (g68)
  have fx371 : V326 (n + 39) = some (.inl (cs 1, 120, .inl (fun _ => 0))) := (rg336 (n + 39) (by omega)).trans (g69)
  have fx372 : V326 (n + 40) = some (.inr (2, [.ref (n + 41), .ref (n + 43), .int (0)])) := (rg336 (n + 40) (by omega)).trans (g70)
  have fx373 : V326 (n + 41) = some (.inr (9, [.ref (n + 42), .int (0)])) := (rg336 (n + 41) (by omega)).trans (g71)
  have fx374 : V326 (n + 42) = some (.inl (cs 0, 30, .inl (fun _ => 0))) := (rg336 (n + 42) (by omega)).trans (g72)
  have fx375 : V326 (n + 43) = some (.inl (cs 1, 120, .inl (fun _ => 0))) := (rg336 (n + 43) (by omega)).trans (g73)
  have fx376 : V326 (n + 44) = some (.inr (9, [.ref (n + 45), .int (0)])) := (rg336 (n + 44) (by omega)).trans (g74)
  have fx377 : V326 (n + 45) = some (.inl (cs 0, 30, .inl (fun _ => 0))) := (rg336 (n + 45) (by omega)).trans (g75)
  have rg378 := fun (x7 : Nat) (hx7 : n + 46 ≤ x7 ∧ x7 ≤ n + 49) => (o328 (x7) (by omega)).trans ((fr322 (x7) (by omega) (by omega)).trans ((o318 (x7) (by omega)).trans ((o315 (x7) (by omega)).trans ((fr309 (x7) (by omega) (by omega)).trans ((o305 (x7) (by omega)).trans ((o302 (x7) (by omega)).trans ((o299 (x7) (by omega)).trans ((o295 (x7) (by omega)).trans ((o291 (x7) (by omega)).trans ((fr281 (x7) (by omega) (by omega)).trans ((o277 (x7) (by omega)).trans ((o272 (x7) (by omega)).trans ((fr262 (x7) (by omega) (by omega)).trans ((o258 (x7) (by omega)).trans ((o253 (x7) (by omega)).trans ((fr243 (x7) (by omega) (by omega)).trans ((o239 (x7) (by omega)).trans ((o234 (x7) (by omega)).trans ((fr224 (x7) (by omega) (by omega)).trans ((o220 (x7) (by omega)).trans ((o215 (x7) (by omega)).trans ((fr205 (x7) (by omega) (by omega)).trans ((o201 (x7) (by omega)).trans ((o196 (x7) (by omega)).trans ((fr186 (x7) (by omega) (by omega)).trans ((o182 (x7) (by omega)).trans ((o177 (x7) (by omega)).trans ((fr167 (x7) (by omega) (by omega)).trans ((o163 (x7) (by omega)).trans ((o158 (x7) (by omega)).trans ((fr148 (x7) (by omega) (by omega)).trans ((o144 (x7) (by omega)).trans ((o140 (x7) (by omega)).trans ((o136 (x7) (by omega)).trans ((o133 (x7) (by omega)).trans ((fr116 (x7) (by omega) (by omega)).trans ((o112 (x7) (by omega)).trans (o109 (x7) (by omega)))))))))))))))))))))))))))))))))))))))
  have fx379 : V326 (n + 46) = some (.inr (8, [.int (0), .ref (n + 47), .ref (n + 48), .ref (n + 49)])) := (rg378 (n + 46) (by omega)).trans (g102)
  have fx380 : V326 (n + 47) = some (.inl (cs 2, 900, .inr (.inl (fun _ => 0)))) := (rg378 (n + 47) (by omega)).trans (g103)
  have fx381 : V326 (n + 48) = some (.inl (cs 2, 900, .inr (.inl (fun _ => 0)))) := (rg378 (n + 48) (by omega)).trans (g104)
  have fx382 : V326 (n + 49) = some (.inl (cs 2, 900, .inr (.inl (fun _ => 0)))) := (rg378 (n + 49) (by omega)).trans (g105)
  have rg383 := fun (x7 : Nat) (hx7 : n + 50 ≤ x7 ∧ x7 ≤ n + 61) => (o328 (x7) (by omega)).trans ((fr322 (x7) (by omega) (by omega)).trans ((o318 (x7) (by omega)).trans ((o315 (x7) (by omega)).trans ((fr309 (x7) (by omega) (by omega)).trans ((o305 (x7) (by omega)).trans ((o302 (x7) (by omega)).trans ((o299 (x7) (by omega)).trans ((o295 (x7) (by omega)).trans ((o291 (x7) (by omega)).trans ((fr281 (x7) (by omega) (by omega)).trans ((o277 (x7) (by omega)).trans ((o272 (x7) (by omega)).trans ((fr262 (x7) (by omega) (by omega)).trans ((o258 (x7) (by omega)).trans ((o253 (x7) (by omega)).trans ((fr243 (x7) (by omega) (by omega)).trans ((o239 (x7) (by omega)).trans ((o234 (x7) (by omega)).trans ((fr224 (x7) (by omega) (by omega)).trans ((o220 (x7) (by omega)).trans ((o215 (x7) (by omega)).trans ((fr205 (x7) (by omega) (by omega)).trans ((o201 (x7) (by omega)).trans ((o196 (x7) (by omega)).trans ((fr186 (x7) (by omega) (by omega)).trans ((o182 (x7) (by omega)).trans ((o177 (x7) (by omega)).trans ((fr167 (x7) (by omega) (by omega)).trans ((o163 (x7) (by omega)).trans ((o158 (x7) (by omega)).trans ((fr148 (x7) (by omega) (by omega)).trans ((o144 (x7) (by omega)).trans ((o140 (x7) (by omega)).trans ((o136 (x7) (by omega)).trans (o133 (x7) (by omega))))))))))))))))))))))))))))))))))))
  have fx384 : V326 (n + 50) = some (.inr (1, [.ref (n + 51), .ref (n + 52), .int (0), .ref (n + 53), .ref (n + 55), .ref (n + 57), .null, .null, .null, .int (0), .ref (n + 59), .ref (n + 60), .ref (n + 61)])) := (rg383 (n + 50) (by omega)).trans (g118)
  have fx385 : V326 (n + 51) = some (.inr (10, [.int (0), .int (0), .int (0), .int (0), .int (0), .int (0), .int (0)])) := (rg383 (n + 51) (by omega)).trans (g119)
  have fx386 : V326 (n + 52) = some (.inr (10, [.int (0), .int (0), .int (0), .int (0), .int (0), .int (0), .int (0)])) := (rg383 (n + 52) (by omega)).trans (g120)
  have fx387 : V326 (n + 53) = some (.inr (9, [.ref (n + 54), .int (0)])) := (rg383 (n + 53) (by omega)).trans (g121)
  have fx388 : V326 (n + 54) = some (.inl (cs 0, 30, .inl (fun _ => 0))) := (rg383 (n + 54) (by omega)).trans (g122)
  have fx389 : V326 (n + 55) = some (.inr (9, [.ref (n + 56), .int (0)])) := (rg383 (n + 55) (by omega)).trans (g123)
  have fx390 : V326 (n + 56) = some (.inl (cs 0, 30, .inl (fun _ => 0))) := (rg383 (n + 56) (by omega)).trans (g124)
  have fx391 : V326 (n + 57) = some (.inr (9, [.ref (n + 58), .int (0)])) := (rg383 (n + 57) (by omega)).trans (g125)
  have fx392 : V326 (n + 58) = some (.inl (cs 0, 30, .inl (fun _ => 0))) := (rg383 (n + 58) (by omega)).trans (g126)
  have fx393 : V326 (n + 59) = some (.inl (cs 1, 2, .inl (fun _ => 0))) := (rg383 (n + 59) (by omega)).trans (g127)
  have fx394 : V326 (n + 60) = some (.inl (cs 1, 2, .inl (fun _ => 0))) := (rg383 (n + 60) (by omega)).trans (g128)
  have fx395 : V326 (n + 61) = some (.inl (cs 1, 2, .inl (fun _ => 0))) := (rg383 (n + 61) (by omega)).trans (g129)
  have rg396 := fun (x7 : Nat) (hx7 : n + 63 ≤ x7 ∧ x7 ≤ n + 65) => (o328 (x7) (by omega)).trans ((fr322 (x7) (by omega) (by omega)).trans ((o318 (x7) (by omega)).trans ((o315 (x7) (by omega)).trans ((fr309 (x7) (by omega) (by omega)).trans ((o305 (x7) (by omega)).trans ((o302 (x7) (by omega)).trans ((o299 (x7) (by omega)).trans ((o295 (x7) (by omega)).trans ((o291 (x7) (by omega)).trans ((fr281 (x7) (by omega) (by omega)).trans ((o277 (x7) (by omega)).trans ((o272 (x7) (by omega)).trans ((fr262 (x7) (by omega) (by omega)).trans ((o258 (x7) (by omega)).trans ((o253 (x7) (by omega)).trans ((fr243 (x7) (by omega) (by omega)).trans ((o239 (x7) (by omega)).trans ((o234 (x7) (by omega)).trans ((fr224 (x7) (by omega) (by omega)).trans ((o220 (x7) (by omega)).trans ((o215 (x7) (by omega)).trans ((fr205 (x7) (by omega) (by omega)).trans ((o201 (x7) (by omega)).trans ((o196 (x7) (by omega)).trans ((fr186 (x7) (by omega) (by omega)).trans ((o182 (x7) (by omega)).trans ((o177 (x7) (by omega)).trans ((fr167 (x7) (by omega) (by omega)).trans ((o163 (x7) (by omega)).trans (o158 (x7) (by omega)))))))))))))))))))))))))))))))
  have fx397 : V326 (n + 63) = some (.inr (4, [.ref (n + 64), .ref (n + 65)])) := (rg396 (n + 63) (by omega)).trans (g153)
  have fx398 : V326 (n + 64) = some (.inl (cs 1, 60, .inl (fun _ => 0))) := (rg396 (n + 64) (by omega)).trans (g154)
  have fx399 : V326 (n + 65) = some (.inl (cs 1, 3, .inl (g150))) := (rg396 (n + 65) (by omega)).trans (g151)
  have rg400 := fun (x7 : Nat) (hx7 : n + 66 ≤ x7 ∧ x7 ≤ n + 68) => (o328 (x7) (by omega)).trans ((fr322 (x7) (by omega) (by omega)).trans ((o318 (x7) (by omega)).trans ((o315 (x7) (by omega)).trans ((fr309 (x7) (by omega) (by omega)).trans ((o305 (x7) (by omega)).trans ((o302 (x7) (by omega)).trans ((o299 (x7) (by omega)).trans ((o295 (x7) (by omega)).trans ((o291 (x7) (by omega)).trans ((fr281 (x7) (by omega) (by omega)).trans ((o277 (x7) (by omega)).trans ((o272 (x7) (by omega)).trans ((fr262 (x7) (by omega) (by omega)).trans ((o258 (x7) (by omega)).trans ((o253 (x7) (by omega)).trans ((fr243 (x7) (by omega) (by omega)).trans ((o239 (x7) (by omega)).trans ((o234 (x7) (by omega)).trans ((fr224 (x7) (by omega) (by omega)).trans ((o220 (x7) (by omega)).trans ((o215 (x7) (by omega)).trans ((fr205 (x7) (by omega) (by omega)).trans ((o201 (x7) (by omega)).trans ((o196 (x7) (by omega)).trans ((fr186 (x7) (by omega) (by omega)).trans ((o182 (x7) (by omega)).trans (o177 (x7) (by omega))))))))))))))))))))))))))))
  have fx401 : V326 (n + 66) = some (.inr (4, [.ref (n + 67), .ref (n + 68)])) := (rg400 (n + 66) (by omega)).trans (g172)
  have fx402 : V326 (n + 67) = some (.inl (cs 1, 60, .inl (fun _ => 0))) := (rg400 (n + 67) (by omega)).trans (g173)
  have fx403 : V326 (n + 68) = some (.inl (cs 1, 3, .inl (g169))) := (rg400 (n + 68) (by omega)).trans (g170)
  have rg404 := fun (x7 : Nat) (hx7 : n + 69 ≤ x7 ∧ x7 ≤ n + 71) => (o328 (x7) (by omega)).trans ((fr322 (x7) (by omega) (by omega)).trans ((o318 (x7) (by omega)).trans ((o315 (x7) (by omega)).trans ((fr309 (x7) (by omega) (by omega)).trans ((o305 (x7) (by omega)).trans ((o302 (x7) (by omega)).trans ((o299 (x7) (by omega)).trans ((o295 (x7) (by omega)).trans ((o291 (x7) (by omega)).trans ((fr281 (x7) (by omega) (by omega)).trans ((o277 (x7) (by omega)).trans ((o272 (x7) (by omega)).trans ((fr262 (x7) (by omega) (by omega)).trans ((o258 (x7) (by omega)).trans ((o253 (x7) (by omega)).trans ((fr243 (x7) (by omega) (by omega)).trans ((o239 (x7) (by omega)).trans ((o234 (x7) (by omega)).trans ((fr224 (x7) (by omega) (by omega)).trans ((o220 (x7) (by omega)).trans ((o215 (x7) (by omega)).trans ((fr205 (x7) (by omega) (by omega)).trans ((o201 (x7) (by omega)).trans (o196 (x7) (by omega)))))))))))))))))))))))))
  have fx405 : V326 (n + 69) = some (.inr (4, [.ref (n + 70), .ref (n + 71)])) := (rg404 (n + 69) (by omega)).trans (g191)
  have fx406 : V326 (n + 70) = some (.inl (cs 1, 60, .inl (fun _ => 0))) := (rg404 (n + 70) (by omega)).trans (g192)
  have fx407 : V326 (n + 71) = some (.inl (cs 1, 3, .inl (g188))) := (rg404 (n + 71) (by omega)).trans (g189)
  have rg408 := fun (x7 : Nat) (hx7 : n + 72 ≤ x7 ∧ x7 ≤ n + 74) => (o328 (x7) (by omega)).trans ((fr322 (x7) (by omega) (by omega)).trans ((o318 (x7) (by omega)).trans ((o315 (x7) (by omega)).trans ((fr309 (x7) (by omega) (by omega)).trans ((o305 (x7) (by omega)).trans ((o302 (x7) (by omega)).trans ((o299 (x7) (by omega)).trans ((o295 (x7) (by omega)).trans ((o291 (x7) (by omega)).trans ((fr281 (x7) (by omega) (by omega)).trans ((o277 (x7) (by omega)).trans ((o272 (x7) (by omega)).trans ((fr262 (x7) (by omega) (by omega)).trans ((o258 (x7) (by omega)).trans ((o253 (x7) (by omega)).trans ((fr243 (x7) (by omega) (by omega)).trans ((o239 (x7) (by omega)).trans ((o234 (x7) (by omega)).trans ((fr224 (x7) (by omega) (by omega)).trans ((o220 (x7) (by omega)).trans (o215 (x7) (by omega))))))))))))))))))))))
  have fx409 : V326 (n + 72) = some (.inr (4, [.ref (n + 73), .ref (n + 74)])) := (rg408 (n + 72) (by omega)).trans (g210)
  have fx410 : V326 (n + 73) = some (.inl (cs 1, 60, .inl (fun _ => 0))) := (rg408 (n + 73) (by omega)).trans (g211)
  have fx411 : V326 (n + 74) = some (.inl (cs 1, 3, .inl (g207))) := (rg408 (n + 74) (by omega)).trans (g208)
  have rg412 := fun (x7 : Nat) (hx7 : n + 75 ≤ x7 ∧ x7 ≤ n + 77) => (o328 (x7) (by omega)).trans ((fr322 (x7) (by omega) (by omega)).trans ((o318 (x7) (by omega)).trans ((o315 (x7) (by omega)).trans ((fr309 (x7) (by omega) (by omega)).trans ((o305 (x7) (by omega)).trans ((o302 (x7) (by omega)).trans ((o299 (x7) (by omega)).trans ((o295 (x7) (by omega)).trans ((o291 (x7) (by omega)).trans ((fr281 (x7) (by omega) (by omega)).trans ((o277 (x7) (by omega)).trans ((o272 (x7) (by omega)).trans ((fr262 (x7) (by omega) (by omega)).trans ((o258 (x7) (by omega)).trans ((o253 (x7) (by omega)).trans ((fr243 (x7) (by omega) (by omega)).trans ((o239 (x7) (by omega)).trans (o234 (x7) (by omega)))))))))))))))))))
  have fx413 : V326 (n + 75) = some (.inr (4, [.ref (n + 76), .ref (n + 77)])) := (rg412 (n + 75) (by omega)).trans (g229)
  have fx414 : V326 (n + 76) = some (.inl (cs 1, 60, .inl (fun _ => 0))) := (rg412 (n + 76) (by omega)).trans (g230)
  have fx415 : V326 (n + 77) = some (.inl (cs 1, 3, .inl (g226))) := (rg412 (n + 77) (by omega)).trans (g227)
  have rg416 := fun (x7 : Nat) (hx7 : n + 78 ≤ x7 ∧ x7 ≤ n + 80) => (o328 (x7) (by omega)).trans ((fr322 (x7) (by omega) (by omega)).trans ((o318 (x7) (by omega)).trans ((o315 (x7) (by omega)).trans ((fr309 (x7) (by omega) (by omega)).trans ((o305 (x7) (by omega)).trans ((o302 (x7) (by omega)).trans ((o299 (x7) (by omega)).trans ((o295 (x7) (by omega)).trans ((o291 (x7) (by omega)).trans ((fr281 (x7) (by omega) (by omega)).trans ((o277 (x7) (by omega)).trans ((o272 (x7) (by omega)).trans ((fr262 (x7) (by omega) (by omega)).trans ((o258 (x7) (by omega)).trans (o253 (x7) (by omega))))))))))))))))
  have fx417 : V326 (n + 78) = some (.inr (4, [.ref (n + 79), .ref (n + 80)])) := (rg416 (n + 78) (by omega)).trans (g248)
  have fx418 : V326 (n + 79) = some (.inl (cs 1, 60, .inl (fun _ => 0))) := (rg416 (n + 79) (by omega)).trans (g249)
  have fx419 : V326 (n + 80) = some (.inl (cs 1, 3, .inl (g245))) := (rg416 (n + 80) (by omega)).trans (g246)
  have rg420 := fun (x7 : Nat) (hx7 : n + 81 ≤ x7 ∧ x7 ≤ n + 83) => (o328 (x7) (by omega)).trans ((fr322 (x7) (by omega) (by omega)).trans ((o318 (x7) (by omega)).trans ((o315 (x7) (by omega)).trans ((fr309 (x7) (by omega) (by omega)).trans ((o305 (x7) (by omega)).trans ((o302 (x7) (by omega)).trans ((o299 (x7) (by omega)).trans ((o295 (x7) (by omega)).trans ((o291 (x7) (by omega)).trans ((fr281 (x7) (by omega) (by omega)).trans ((o277 (x7) (by omega)).trans (o272 (x7) (by omega)))))))))))))
  have fx421 : V326 (n + 81) = some (.inr (4, [.ref (n + 82), .ref (n + 83)])) := (rg420 (n + 81) (by omega)).trans (g267)
  have fx422 : V326 (n + 82) = some (.inl (cs 1, 60, .inl (fun _ => 0))) := (rg420 (n + 82) (by omega)).trans (g268)
  have fx423 : V326 (n + 83) = some (.inl (cs 1, 3, .inl (g264))) := (rg420 (n + 83) (by omega)).trans (g265)
  have rg424 := fun (x7 : Nat) (hx7 : n + 84 ≤ x7 ∧ x7 ≤ n + 86) => (o328 (x7) (by omega)).trans ((fr322 (x7) (by omega) (by omega)).trans ((o318 (x7) (by omega)).trans ((o315 (x7) (by omega)).trans ((fr309 (x7) (by omega) (by omega)).trans ((o305 (x7) (by omega)).trans ((o302 (x7) (by omega)).trans ((o299 (x7) (by omega)).trans ((o295 (x7) (by omega)).trans (o291 (x7) (by omega))))))))))
  have fx425 : V326 (n + 84) = some (.inr (4, [.ref (n + 85), .ref (n + 86)])) := (rg424 (n + 84) (by omega)).trans (g286)
  have fx426 : V326 (n + 85) = some (.inl (cs 1, 60, .inl (fun _ => 0))) := (rg424 (n + 85) (by omega)).trans (g287)
  have fx427 : V326 (n + 86) = some (.inl (cs 1, 3, .inl (g283))) := (rg424 (n + 86) (by omega)).trans (g284)
  have fx428 := (o328 (n + 87) (hq_lt lt_f0 87).symm).trans ((fr322 (n + 87) (hq_lts n 87 466 (by decide)) (hq_ne n 87 465 (by decide))).trans ((o318 (n + 87) (hq_ne n 87 465 (by decide))).trans ((o315 (n + 87) (hq_lt lt_f0 87).symm).trans ((fr309 (n + 87) (hq_lts n 87 89 (by decide)) (hq_ne n 87 88 (by decide))).trans ((o305 (n + 87) (hq_ne n 87 88 (by decide))).trans ((o302 (n + 87) (hq_lt lt_f0 87).symm).trans ((o299 (n + 87) (hq_lt lt_f0 87).symm).trans (e294))))))))
  have fx428 : V326 (n + 87) = some (.inl (cs 1, 60, .inl (fun _ => 0))) := fx428
  have fx429 := (o328 (n + 62) (hq_lt lt_f0 62).symm).trans ((fr322 (n + 62) (hq_lts n 62 466 (by decide)) (hq_ne n 62 465 (by decide))).trans ((o318 (n + 62) (hq_ne n 62 465 (by decide))).trans ((o315 (n + 62) (hq_lt lt_f0 62).symm).trans ((fr309 (n + 62) (hq_lts n 62 89 (by decide)) (hq_ne n 62 88 (by decide))).trans ((o305 (n + 62) (hq_ne n 62 88 (by decide))).trans ((o302 (n + 62) (hq_lt lt_f0 62).symm).trans ((o299 (n + 62) (hq_lt lt_f0 62).symm).trans ((o295 (n + 62) (hq_ne n 62 87 (by decide))).trans (e290)))))))))
  have fx429 : V326 (n + 62) = some (.inl (cs 5, 8, .inr (.inr (.inr (.inr (va_up (va_up (va_up (va_up (va_up (va_up (va_up (va_up (fun _ => none) ((0 : Int32).toNatClampNeg) (some (n + 63))) ((1 : Int32).toNatClampNeg) (some (n + 66))) ((2 : Int32).toNatClampNeg) (some (n + 69))) ((3 : Int32).toNatClampNeg) (some (n + 72))) ((4 : Int32).toNatClampNeg) (some (n + 75))) ((5 : Int32).toNatClampNeg) (some (n + 78))) ((6 : Int32).toNatClampNeg) (some (n + 81))) ((7 : Int32).toNatClampNeg) (some (n + 84)))))))) := fx429
  exact hp_vret hx hb hr hlocks hZ ⟨rfl, ⟨e327, fx330, fx331, fx333, fx334, fx335, fx337, fx338, fx340, fx341, fx342, fx343, fx344, fx345, fx346, fx347, fx348, fx349, fx350, fx351, fx352, fx353, fx354, fx355, fx356, fx358, fx359, fx360, fx361, fx362, fx363, fx364, fx365, fx366, fx368, fx369, fx370, fx371, fx372, fx373, fx374, fx375, fx376, fx377, fx379, fx380, fx381, fx382, fx384, fx385, fx386, fx387, fx388, fx389, fx390, fx391, fx392, fx393, fx394, fx395, fx397, fx401, fx405, fx409, fx413, fx417, fx421, fx425, fx398, fx402, fx406, fx410, fx414, fx418, fx422, fx426, fx428, ⟨_, fx339, g78, g79, g80, g81⟩, ⟨_, fx357, g84, g85⟩, ⟨_, fx367, g88, g89⟩, ⟨_, fx429, rfl, rfl, rfl, rfl, rfl, rfl, rfl, rfl⟩, ⟨_, fx399⟩, ⟨_, fx403⟩, ⟨_, fx407⟩, ⟨_, fx411⟩, ⟨_, fx415⟩, ⟨_, fx419⟩, ⟨_, fx423⟩, ⟨_, fx427⟩, (hbk311.keep (fun x hx9 => (o328 (x) (by omega)).trans ((fr322 (x) (by omega) (by omega)).trans ((o318 (x) (by omega)).trans (o315 (x) (by omega)))))), (hbk324.keep (fun x hx9 => o328 (x) (by omega)))⟩, fun x hxn hxa => (o328 (x) hxa).trans ((fr322 (x) (hq_ltn hxn 466) (hq_lt hxn 465)).trans ((o318 (x) (hq_lt hxn 465)).trans ((o315 (x) hxa).trans ((fr309 (x) (hq_ltn hxn 89) (hq_lt hxn 88)).trans ((o305 (x) (hq_lt hxn 88)).trans ((o302 (x) hxa).trans ((o299 (x) hxa).trans ((o295 (x) (hq_lt hxn 87)).trans ((o291 (x) (hq_lt hxn 62)).trans ((fr281 (x) (hq_ltn hxn 85) (hq_lt hxn 84)).trans ((o277 (x) (hq_lt hxn 84)).trans ((o272 (x) (hq_lt hxn 62)).trans ((fr262 (x) (hq_ltn hxn 82) (hq_lt hxn 81)).trans ((o258 (x) (hq_lt hxn 81)).trans ((o253 (x) (hq_lt hxn 62)).trans ((fr243 (x) (hq_ltn hxn 79) (hq_lt hxn 78)).trans ((o239 (x) (hq_lt hxn 78)).trans ((o234 (x) (hq_lt hxn 62)).trans ((fr224 (x) (hq_ltn hxn 76) (hq_lt hxn 75)).trans ((o220 (x) (hq_lt hxn 75)).trans ((o215 (x) (hq_lt hxn 62)).trans ((fr205 (x) (hq_ltn hxn 73) (hq_lt hxn 72)).trans ((o201 (x) (hq_lt hxn 72)).trans ((o196 (x) (hq_lt hxn 62)).trans ((fr186 (x) (hq_ltn hxn 70) (hq_lt hxn 69)).trans ((o182 (x) (hq_lt hxn 69)).trans ((o177 (x) (hq_lt hxn 62)).trans ((fr167 (x) (hq_ltn hxn 67) (hq_lt hxn 66)).trans ((o163 (x) (hq_lt hxn 66)).trans ((o158 (x) (hq_lt hxn 62)).trans ((fr148 (x) (hq_ltn hxn 64) (hq_lt hxn 63)).trans ((o144 (x) (hq_lt hxn 63)).trans ((o140 (x) hxa).trans ((o136 (x) (hq_lt hxn 62)).trans ((o133 (x) hxa).trans ((fr116 (x) (hq_ltn hxn 51) (hq_lt hxn 50)).trans ((o112 (x) (hq_lt hxn 50)).trans ((o109 (x) hxa).trans ((fr100 (x) (hq_ltn hxn 47) (hq_lt hxn 46)).trans ((o96 (x) (hq_lt hxn 46)).trans ((o93 (x) hxa).trans ((fr36 (x) (hq_ltn hxn 6) (hq_lt hxn 5)).trans ((o32 (x) (hq_lt hxn 5)).trans ((o29 (x) hxa).trans ((fr21 (x) (hq_ltn hxn 3) (hq_lt hxn 2)).trans ((o17 (x) (hq_lt hxn 2)).trans ((o14 (x) hxa).trans ((fr7 (x) (hq_ltn hxn 1) (hq_lt hxn 0)).trans (o3 (x) (hq_lt hxn 0))))))))))))))))))))))))))))))))))))))))))))))))))⟩ dX11_init_133

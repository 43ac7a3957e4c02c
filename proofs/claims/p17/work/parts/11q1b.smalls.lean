set_option maxHeartbeats 4000000 in
set_option maxRecDepth 100000 in
theorem x_plOf (l : Launch) (D : va_G) (cs : Nat → ClassId) (B : Nat) (G : hq_G) (V : hp_V) (n : Nat) (hI : hq_I cs G V) (v : Int32) (te : Int32) (pe : Int32) : hp_M l yX11_placeOf cX11_placeOf 3 (some .int) ({ frames := 1, cells := 0, slots := 0, locals := 21 }) D cs B V n [.int (v), .int (te), .int (pe)] (hp_QI D cs B (fun r V' n' => n = n' ∧ V = V')) 0 0 := by
  refine hp_walk (R0 := RX11) (by decide) rfl ?_ (Nat.le_of_ble_eq_true rfl)
  intro p e s m below meth c ls hx hb hr hts hown hlocks hin hml hZ hl
  have hP : hq_I cs G V := hI
  have hl : lv_has ls 3 [(0, .int (v)), (1, .int (te)), (2, .int (pe))] := hl
  have hb_v := hq_rng v
  have hb_te := hq_rng te
  have hb_pe := hq_rng pe
  refine lv_iload_n hx hb dX11_placeOf_0 rfl (lv_at hl 0 rfl) ?_
  refine lv_bipush (v := 30) hx hb dX11_placeOf_1 (by decide) ?_
  refine lv_imul hx hb dX11_placeOf_3 ?_
  refine lv_topi (fun y1 ey2 => ?_)
  obtain ⟨k3, hk4, b5, b6⟩ := hq_mul (v) (30)
  rw [← ey2] at hk4 b5 b6
  have hk4 : (y1).toInt = (v).toInt * (30 : Int) + k3 * 4294967296 := hk4
  refine lv_iload_n hx hb dX11_placeOf_4 rfl (lv_at hl 1 rfl) ?_
  refine lv_bipush (v := 6) hx hb dX11_placeOf_5 (by decide) ?_
  refine lv_imul hx hb dX11_placeOf_7 ?_
  refine lv_topi (fun y7 ey8 => ?_)
  obtain ⟨k9, hk10, b11, b12⟩ := hq_mul (te) (6)
  rw [← ey8] at hk10 b11 b12
  have hk10 : (y7).toInt = (te).toInt * (6 : Int) + k9 * 4294967296 := hk10
  refine lv_iadd hx hb dX11_placeOf_8 ?_
  refine lv_topi (fun y13 ey14 => ?_)
  obtain ⟨k15, hk16, b17, b18⟩ := hq_add (y1) (y7)
  rw [← ey14] at hk16 b17 b18
  have hk16 : (y13).toInt = (y1).toInt + (y7).toInt + k15 * 4294967296 := hk16
  refine lv_iload_n hx hb dX11_placeOf_9 rfl (lv_at hl 2 rfl) ?_
  refine lv_iadd hx hb dX11_placeOf_10 ?_
  refine lv_topi (fun y19 ey20 => ?_)
  obtain ⟨k21, hk22, b23, b24⟩ := hq_add (y13) (pe)
  rw [← ey20] at hk22 b23 b24
  have hk22 : (y19).toInt = (y13).toInt + (pe).toInt + k21 * 4294967296 := hk22
  exact hp_iret hx hb hr hlocks hZ ⟨rfl, rfl⟩ dX11_placeOf_11

set_option maxHeartbeats 4000000 in
set_option maxRecDepth 100000 in
theorem x_change (l : Launch) (D : va_G) (cs : Nat → ClassId) (B : Nat) (G : hq_G) (V : hp_V) (n : Nat) (hI : hq_I cs G V) (a : Nat) (kb : Nat) (qt : Nat) (qb : Nat) (T : List sp_C3) (k : Int32) (c_fs : Int32) (e_fd : Int32) (e_sz : Int32) (e_bk : Value) (e_an : Value) (e_mk : Value) (kk : Nat → Int32) (mm : Nat → Int32) (tt_ : Nat → Int32) (hc0 : V (a) = some (.inr (11, [.ref (kb), .ref (kb + 2), .ref (kb + 5), .ref (kb + 46), .ref (kb + 50), .ref (kb + 62), .ref (kb + 87), .int (c_fs), .ref (qt), .ref (qb)]))) (hc1 : V (kb + 50) = some (.inr (1, [.ref (kb + 51), .ref (kb + 52), .int (e_fd), .ref (kb + 53), .ref (kb + 55), .ref (kb + 57), e_bk, e_an, e_mk, .int (e_sz), .ref (kb + 59), .ref (kb + 60), .ref (kb + 61)]))) (hc2 : V (kb + 59) = some (.inl (cs 1, 2, .inl (kk)))) (hc3 : V (kb + 60) = some (.inl (cs 1, 2, .inl (mm)))) (hc4 : V (kb + 61) = some (.inl (cs 1, 2, .inl (tt_)))) (hT : sp_hl e_sz kk mm tt_ T) (hT2 : T.length ≤ 2) : hp_M l yX11_change cX11_change 2 (some .int) ({ frames := 2, cells := 0, slots := 0, locals := 43 }) D cs B V n [.ref (a), .int (k)] (hp_QI D cs B (fun r V' n' => n = n' ∧ V = V' ∧ (r.toInt = sp_cha T k.toInt))) 0 0 := by
  refine hp_walk (R0 := RX11) (by decide) rfl ?_ (Nat.le_of_ble_eq_true rfl)
  intro p e s m below meth c ls hx hb hr hts hown hlocks hin hml hZ hl
  have hP : hq_I cs G V := hI
  have hl : lv_has ls 2 [(0, .ref (a)), (1, .int (k))] := hl
  have hb_k := hq_rng k
  have hb_c_fs := hq_rng c_fs
  have hb_e_fd := hq_rng e_fd
  have hb_e_sz := hq_rng e_sz
  refine lv_aload_n hx hb dX11_change_0 rfl (lv_at hl 0 rfl) ?_
  refine hp_get (v := .ref (kb + 50)) hx hb hts hown hZ hc0 fl_X11_42 rfl dX11_change_1 ?_
  refine lv_iload_n hx hb dX11_change_4 rfl (lv_at hl 1 rfl) ?_
  refine hp_calli (hp_runV (As := [.int (k)]) (rest := []) hx hb hml hown hts (x_detail l D cs B G V n hP (kb) (T) (k) (e_fd) (e_sz) (e_bk) (e_an) (e_mk) (kk) (mm) (tt_)  hc1 hc2 hc3 hc4  hT hT2) hZ hc1 cv_X11_263 rfl rfl ⟨Nat.le_of_ble_eq_true rfl, Nat.le_of_ble_eq_true rfl⟩ rfl hl.1 rfl (Nat.le_of_ble_eq_true rfl) dX11_change_5 ⟨(Nat.le_of_ble_eq_true rfl), (Nat.le_of_ble_eq_true rfl)⟩) hZ (fun r4 V1 n2 _ _ hw3 hZ => ?_)
  obtain ⟨rfl, rfl, hp7⟩ := hw3
  have b8 := hq_rng r4
  exact hp_iret hx hb hr hlocks hZ ⟨rfl, rfl, (by omega)⟩ dX11_change_8

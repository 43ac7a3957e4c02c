set_option maxHeartbeats 4000000 in
set_option maxRecDepth 100000 in
theorem x_flkeep (l : Launch) (D : va_G) (cs : Nat → ClassId) (B : Nat) (G : hq_G) (V : hp_V) (n : Nat) (hI : hq_I cs G V) (fl : Nat) (nz : Int32) (gf : Nat → Option Nat) (hy0 : G (fl) = some (8, 4, 0, 0)) (hy1 : G (fl + 1) = some (4, 4, 4, 0)) (hc0 : V (fl) = some (.inr (3, [.ref (fl + 1), .int (nz)]))) (hc1 : V (fl + 1) = some (.inl (cs 4, 4, .inr (.inr (.inr (.inr (gf))))))) (hnz : 0 ≤ nz.toInt ∧ nz.toInt < 4) : hp_M l yX3_keep cX3_keep 1 none ({ frames := 1, cells := 0, slots := 0, locals := 21 }) D cs B V n [.ref (fl)] (hp_QV D cs B (fun V' n' => n = n' ∧ hq_P cs G (fun _ => true) V V' ∧ (∀ x, x ≠ fl → V' x = V x) ∧ (∃ nz1 : Int32, V' (fl) = some (.inr (3, [.ref (fl + 1), .int (nz1)])) ∧ (nz1.toInt = nz.toInt + 1)))) 0 0 := by
  refine hp_walk (R0 := RX3) (by decide) rfl ?_ (Nat.le_of_ble_eq_true rfl)
  intro p e s m below meth c ls hx hb hr hts hown hlocks hin hml hZ hl
  have hP : hq_P cs G (fun _ => true) V V := hq_P.rf hI
  have hl : lv_has ls 1 [(0, .ref (fl))] := hl
  have hb_nz := hq_rng nz
  refine lv_aload_n hx hb dX3_keep_0 rfl (lv_at hl 0 rfl) ?_
  refine hp_get (v := .int (nz)) hx hb hts hown hZ hc0 fl_X3_24 rfl dX3_keep_1 ?_
  refine lv_aload_n hx hb dX3_keep_4 rfl (lv_at hl 0 rfl) ?_
  refine hp_get (v := .ref (fl + 1)) hx hb hts hown hZ hc0 fl_X3_17 rfl dX3_keep_5 ?_
  refine hp_alen (v := 4) hx hb hZ 4 hc1 rfl rfl dX3_keep_8 ?_
  refine lv_icmp_ge (tgt := 22) hx hb dX3_keep_9 (by decide) (fun c1 => ?_) (fun c1 => ?_)
  · have c1 : (4 : Int) ≤ (nz).toInt := hq_lei.mp c1
    exfalso
    omega
  · have c1 : ¬ (4 : Int) ≤ (nz).toInt := fun h9 => c1 (hq_lei.mpr h9)
    refine lv_aload_n hx hb dX3_keep_12 rfl (lv_at hl 0 rfl) ?_
    refine lv_dup hx hb dX3_keep_13 rfl ?_
    refine hp_get (v := .int (nz)) hx hb hts hown hZ hc0 fl_X3_24 rfl dX3_keep_14 ?_
    refine lv_iconst (v := 1) hx hb dX3_keep_17 (by decide) ?_
    refine lv_iadd hx hb dX3_keep_18 ?_
    refine lv_topi (fun y2 ey3 => ?_)
    obtain ⟨k4, hk5, b6, b7⟩ := hq_add (nz) (1)
    rw [← ey3] at hk5 b6 b7
    have hk5 : (y2).toInt = (nz).toInt + (1 : Int) + k4 * 4294967296 := hk5
    obtain rfl : k4 = 0 := by omega
    refine hp_put hx hb hts hown hZ hc0 fp_X3_24 rfl rfl (Nat.le_of_ble_eq_true rfl) dX3_keep_19 (fun V8 _ _ e9 o10 hZ => ?_)
    have e9 : V8 (fl) = some (.inr (3, [.ref (fl + 1), .int (y2)])) := e9
    have hP := hP.put hy0 e9 o10 (hq_c8 hy1 (show 0 ≤ (y2).toInt by omega) (show (y2).toInt ≤ (4 : Nat) by omega) (by omega) (by first | rfl | omega)) rfl
    exact hp_vret hx hb hr hlocks hZ ⟨rfl, hP, (fun x8 hne0 => o10 x8 hne0), y2, e9, by omega⟩ dX3_keep_22

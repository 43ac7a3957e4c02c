set_option maxHeartbeats 4000000 in
set_option maxRecDepth 100000 in
theorem x_flclear (l : Launch) (D : va_G) (cs : Nat → ClassId) (B : Nat) (G : hq_G) (V : hp_V) (n : Nat) (hI : hq_I cs G V) (fl : Nat) (nz : Int32) (hy0 : G (fl) = some (8, 4, 0, 0)) (hy1 : G (fl + 1) = some (4, 4, 4, 0)) (hc0 : V (fl) = some (.inr (3, [.ref (fl + 1), .int (nz)]))) : hp_M l yX3_clear cX3_clear 1 none ({ frames := 1, cells := 0, slots := 0, locals := 21 }) D cs B V n [.ref (fl)] (hp_QV D cs B (fun V' n' => n = n' ∧ hq_P cs G (fun _ => true) V V' ∧ (∀ x, x ≠ fl → V' x = V x) ∧ V' (fl) = some (.inr (3, [.ref (fl + 1), .int (0)])))) 0 0 := by
  refine hp_walk (R0 := RX3) (by decide) rfl ?_ (Nat.le_of_ble_eq_true rfl)
  intro p e s m below meth c ls hx hb hr hts hown hlocks hin hml hZ hl
  have hP : hq_P cs G (fun _ => true) V V := hq_P.rf hI
  have hl : lv_has ls 1 [(0, .ref (fl))] := hl
  have hb_nz := hq_rng nz
  refine lv_aload_n hx hb dX3_clear_0 rfl (lv_at hl 0 rfl) ?_
  refine lv_iconst (v := 0) hx hb dX3_clear_1 (by decide) ?_
  refine hp_put hx hb hts hown hZ hc0 fp_X3_24 rfl rfl (Nat.le_of_ble_eq_true rfl) dX3_clear_2 (fun V1 _ _ e2 o3 hZ => ?_)
  have e2 : V1 (fl) = some (.inr (3, [.ref (fl + 1), .int (0)])) := e2
  have hP := hP.put hy0 e2 o3 (hq_c8 hy1 (show 0 ≤ (0 : Int) by omega) (show (0 : Int) ≤ (4 : Nat) by omega) (by omega) (by first | rfl | omega)) rfl
  exact hp_vret hx hb hr hlocks hZ ⟨rfl, hP, (fun x8 hne0 => o3 x8 hne0), e2⟩ dX3_clear_5

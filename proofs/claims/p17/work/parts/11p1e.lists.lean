set_option maxHeartbeats 4000000 in
set_option maxRecDepth 100000 in
theorem x_addLine (l : Launch) (D : va_G) (cs : Nat → ClassId) (B : Nat) (G : hq_G) (V : hp_V) (n : Nat) (hI : hq_I cs G V) (it : Nat) (k : Int32) (rz : Int32) (rwf : Nat → Int32) (hy0 : G (it) = some (7, 0, 0, 0)) (hy1 : G (it + 1) = some (0, 30, 0, 0)) (hy2 : G (it + 2) = some (1, 30, 0, 0)) (hy3 : G (it + 3) = some (2, 5, 120, 0)) (hc0 : V (it) = some (.inr (2, [.ref (it + 1), .ref (it + 3), .int (rz)]))) (hc1 : V (it + 3) = some (.inl (cs 1, 120, .inl (rwf)))) (hrz : 0 ≤ rz.toInt ∧ rz.toInt ≤ 120) : hp_M l yX2_addLine cX2_addLine 2 none ({ frames := 1, cells := 0, slots := 0, locals := 21 }) D cs B V n [.ref (it), .int (k)] (hp_QV D cs B (fun V' n' => n = n' ∧ hq_P cs G (fun _ => true) V V' ∧ (∀ x, x ≠ it → x ≠ it + 3 → V' x = V x) ∧ (∃ rz1 : Int32, ∃ rw1 : Nat → Int32, V' (it) = some (.inr (2, [.ref (it + 1), .ref (it + 3), .int (rz1)])) ∧ V' (it + 3) = some (.inl (cs 1, 120, .inl (rw1))) ∧ (0 ≤ rz1.toInt ∧ rz1.toInt ≤ 120)))) 0 0 := by
  refine hp_walk (R0 := RX2) (by decide) rfl ?_ (Nat.le_of_ble_eq_true rfl)
  intro p e s m below meth c ls hx hb hr hts hown hlocks hin hml hZ hl
  have hP : hq_P cs G (fun _ => true) V V := hq_P.rf hI
  have hl : lv_has ls 2 [(0, .ref (it)), (1, .int (k))] := hl
  have hb_k := hq_rng k
  have hb_rz := hq_rng rz
  have hf_1 := hq_rg2 hI hy3 hc1
  refine lv_aload_n hx hb dX2_addLine_0 rfl (lv_at hl 0 rfl) ?_
  refine hp_get (v := .int (rz)) hx hb hts hown hZ hc0 fl_X2_27 rfl dX2_addLine_1 ?_
  refine lv_aload_n hx hb dX2_addLine_4 rfl (lv_at hl 0 rfl) ?_
  refine hp_get (v := .ref (it + 3)) hx hb hts hown hZ hc0 fl_X2_20 rfl dX2_addLine_5 ?_
  refine hp_alen (v := 120) hx hb hZ 1 hc1 rfl rfl dX2_addLine_8 ?_
  refine lv_icmp_ge (tgt := 32) hx hb dX2_addLine_9 (by decide) (fun c1 => ?_) (fun c1 => ?_)
  · have c1 : (120 : Int) ≤ (rz).toInt := hq_lei.mp c1
    exact hp_vret hx hb hr hlocks hZ ⟨rfl, hP, (fun x8 hne0 hne1 => rfl), rz, rwf, hc0, hc1, by omega⟩ dX2_addLine_32
  · have c1 : ¬ (120 : Int) ≤ (rz).toInt := fun h9 => c1 (hq_lei.mpr h9)
    refine lv_aload_n hx hb dX2_addLine_12 rfl (lv_at hl 0 rfl) ?_
    refine hp_get (v := .ref (it + 3)) hx hb hts hown hZ hc0 fl_X2_20 rfl dX2_addLine_13 ?_
    refine lv_aload_n hx hb dX2_addLine_16 rfl (lv_at hl 0 rfl) ?_
    refine hp_get (v := .int (rz)) hx hb hts hown hZ hc0 fl_X2_27 rfl dX2_addLine_17 ?_
    refine lv_iload_n hx hb dX2_addLine_20 rfl (lv_at hl 1 rfl) ?_
    refine hp_iast hx hb hZ hc1 (hq_in (by omega) (by omega)) dX2_addLine_21 (fun V2 _ _ e3 o4 hZ => ?_)
    have e3 : V2 (it + 3) = some (.inl (cs 1, 120, .inl (upd (rwf) ((rz : Int32).toNatClampNeg) (k)))) := e3
    have hP := hP.put hy3 e3 o4 (hq_c2 (by omega) (hq_upd hf_1 (hq_rng _))) rfl
    obtain ⟨g5, ge6⟩ : ∃ g9 : Nat → Int32, g9 = upd (rwf) ((rz : Int32).toNatClampNeg) (k) := ⟨_, rfl⟩
    have fx7 : V2 (it + 3) = some (.inl (cs 1, 120, .inl (g5))) := by rw [ge6]; exact e3
    have hf8 := hq_rg2 hP.1 hy3 fx7
    refine lv_aload_n hx hb dX2_addLine_22 rfl (lv_at hl 0 rfl) ?_
    refine lv_dup hx hb dX2_addLine_23 rfl ?_
    have fx9 : V2 (it) = some (.inr (2, [.ref (it + 1), .ref (it + 3), .int (rz)])) := (o4 (it) (hq_tne hy0 hy3 (by simp))).trans (hc0)
    refine hp_get (v := .int (rz)) hx hb hts hown hZ fx9 fl_X2_27 rfl dX2_addLine_24 ?_
    refine lv_iconst (v := 1) hx hb dX2_addLine_27 (by decide) ?_
    refine lv_iadd hx hb dX2_addLine_28 ?_
    refine lv_topi (fun y10 ey11 => ?_)
    obtain ⟨k12, hk13, b14, b15⟩ := hq_add (rz) (1)
    rw [← ey11] at hk13 b14 b15
    have hk13 : (y10).toInt = (rz).toInt + (1 : Int) + k12 * 4294967296 := hk13
    obtain rfl : k12 = 0 := by omega
    refine hp_put hx hb hts hown hZ fx9 fp_X2_27 rfl rfl (Nat.le_of_ble_eq_true rfl) dX2_addLine_29 (fun V16 _ _ e17 o18 hZ => ?_)
    have e17 : V16 (it) = some (.inr (2, [.ref (it + 1), .ref (it + 3), .int (y10)])) := e17
    have hP := hP.put hy0 e17 o18 (hq_c7 hy1 hy3 (show 0 ≤ (y10).toInt by omega) (show (y10).toInt ≤ 120 by omega) (by first | rfl | omega) (by first | rfl | omega)) rfl
    have fx19 : V16 (it + 3) = some (.inl (cs 1, 120, .inl (g5))) := (o18 (it + 3) (hq_tne hy3 hy0 (by simp))).trans (fx7)
    exact hp_vret hx hb hr hlocks hZ ⟨rfl, hP, (fun x8 hne0 hne1 => (o18 x8 hne0).trans (o4 x8 hne1)), y10, g5, e17, fx19, by omega⟩ dX2_addLine_32

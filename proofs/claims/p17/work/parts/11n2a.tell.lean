set_option maxHeartbeats 4000000 in
set_option maxRecDepth 100000 in
theorem x_addC (l : Launch) (D : va_G) (cs : Nat → ClassId) (B : Nat) (G : hq_G) (V : hp_V) (n : Nat) (hI : hq_I cs G V) (kb : Nat) (qt : Nat) (e_fd : Int32) (e_sz : Int32) (k1 : Int32) (k2 : Int32) (k3 : Int32) (kk : Nat → Int32) (mm : Nat → Int32) (tt_ : Nat → Int32) (L : List sp_C3) (hy0 : G (kb + 50) = some (14, 0, 0, 0)) (hy1 : G (kb + 59) = some (2, 8, 2, 0)) (hy2 : G (kb + 60) = some (2, 8, 2, 0)) (hy3 : G (kb + 61) = some (2, 8, 2, 0)) (hc0 : V (kb + 50) = some (.inr (1, [.ref (kb + 51), .ref (kb + 52), .int (e_fd), .ref (kb + 53), .ref (kb + 55), .ref (kb + 57), .ref (qt), .ref (kb), .ref (kb + 5), .int (e_sz), .ref (kb + 59), .ref (kb + 60), .ref (kb + 61)]))) (hc1 : V (kb + 59) = some (.inl (cs 1, 2, .inl (kk)))) (hc2 : V (kb + 60) = some (.inl (cs 1, 2, .inl (mm)))) (hc3 : V (kb + 61) = some (.inl (cs 1, 2, .inl (tt_)))) (hL : sp_hl e_sz kk mm tt_ L) (hln : L.length ≤ 1) (hk2 : -1 ≤ k2.toInt ∧ k2.toInt < 60) : hp_M l yX1_addChange cX1_addChange 4 none ({ frames := 1, cells := 0, slots := 0, locals := 21 }) D cs B V n [.ref (kb + 50), .int (k1), .int (k2), .int (k3)] (hp_QV D cs B (fun V' n' => n = n' ∧ hq_P cs G (fun _ => true) V V' ∧ (∀ x, x ≠ kb + 50 → x ≠ kb + 59 → x ≠ kb + 60 → x ≠ kb + 61 → V' x = V x) ∧ (∃ e_sz1 : Int32, ∃ kk1 : Nat → Int32, ∃ mm1 : Nat → Int32, ∃ tt1 : Nat → Int32, V' (kb + 50) = some (.inr (1, [.ref (kb + 51), .ref (kb + 52), .int (e_fd), .ref (kb + 53), .ref (kb + 55), .ref (kb + 57), .ref (qt), .ref (kb), .ref (kb + 5), .int (e_sz1), .ref (kb + 59), .ref (kb + 60), .ref (kb + 61)])) ∧ V' (kb + 59) = some (.inl (cs 1, 2, .inl (kk1))) ∧ V' (kb + 60) = some (.inl (cs 1, 2, .inl (mm1))) ∧ V' (kb + 61) = some (.inl (cs 1, 2, .inl (tt1))) ∧ (sp_hl e_sz1 kk1 mm1 tt1 (L ++ [(k1.toInt, k2.toInt, k3.toInt)]))))) 0 0 := by
  refine hp_walk (R0 := RX1) (by decide) rfl ?_ (Nat.le_of_ble_eq_true rfl)
  intro p e s m below meth c ls hx hb hr hts hown hlocks hin hml hZ hl
  have hP : hq_P cs G (fun _ => true) V V := hq_P.rf hI
  have hl : lv_has ls 4 [(0, .ref (kb + 50)), (1, .int (k1)), (2, .int (k2)), (3, .int (k3))] := hl
  have hb_e_fd := hq_rng e_fd
  have hb_e_sz := hq_rng e_sz
  have hb_k1 := hq_rng k1
  have hb_k2 := hq_rng k2
  have hb_k3 := hq_rng k3
  have hf_1 := hq_rg2 hI hy1 hc1
  have hf_2 := hq_rg2 hI hy2 hc2
  have hf_3 := hq_rg2 hI hy3 hc3
  have hL1 := hL.1
  refine lv_aload_n hx hb dX1_addChange_0 rfl (lv_at hl 0 rfl) ?_
  refine hp_get (v := .int (e_sz)) hx hb hts hown hZ hc0 fl_X1_46 rfl dX1_addChange_1 ?_
  refine lv_iconst (v := 2) hx hb dX1_addChange_4 (by decide) ?_
  refine lv_icmp_ge (tgt := 48) hx hb dX1_addChange_5 (by decide) (fun c1 => ?_) (fun c1 => ?_)
  · have c1 : (2 : Int) ≤ (e_sz).toInt := hq_lei.mp c1
    exfalso
    omega
  · have c1 : ¬ (2 : Int) ≤ (e_sz).toInt := fun h9 => c1 (hq_lei.mpr h9)
    refine lv_aload_n hx hb dX1_addChange_8 rfl (lv_at hl 0 rfl) ?_
    refine hp_get (v := .ref (kb + 59)) hx hb hts hown hZ hc0 fl_X1_36 rfl dX1_addChange_9 ?_
    refine lv_aload_n hx hb dX1_addChange_12 rfl (lv_at hl 0 rfl) ?_
    refine hp_get (v := .int (e_sz)) hx hb hts hown hZ hc0 fl_X1_46 rfl dX1_addChange_13 ?_
    refine lv_iload_n hx hb dX1_addChange_16 rfl (lv_at hl 1 rfl) ?_
    refine hp_iast hx hb hZ hc1 (hq_in (by omega) (by omega)) dX1_addChange_17 (fun V2 _ _ e3 o4 hZ => ?_)
    have e3 : V2 (kb + 59) = some (.inl (cs 1, 2, .inl (upd (kk) ((e_sz : Int32).toNatClampNeg) (k1)))) := e3
    have hP := hP.put hy1 e3 o4 (hq_c2 (by omega) (hq_upd hf_1 (hq_rng _))) rfl
    obtain ⟨g5, ge6⟩ : ∃ g9 : Nat → Int32, g9 = upd (kk) ((e_sz : Int32).toNatClampNeg) (k1) := ⟨_, rfl⟩
    have fx7 : V2 (kb + 59) = some (.inl (cs 1, 2, .inl (g5))) := by rw [ge6]; exact e3
    have hf8 := hq_rg2 hP.1 hy1 fx7
    refine lv_aload_n hx hb dX1_addChange_18 rfl (lv_at hl 0 rfl) ?_
    have fx9 : V2 (kb + 50) = some (.inr (1, [.ref (kb + 51), .ref (kb + 52), .int (e_fd), .ref (kb + 53), .ref (kb + 55), .ref (kb + 57), .ref (qt), .ref (kb), .ref (kb + 5), .int (e_sz), .ref (kb + 59), .ref (kb + 60), .ref (kb + 61)])) := (o4 (kb + 50) (hq_tne hy0 hy1 (by simp))).trans (hc0)
    refine hp_get (v := .ref (kb + 60)) hx hb hts hown hZ fx9 fl_X1_40 rfl dX1_addChange_19 ?_
    refine lv_aload_n hx hb dX1_addChange_22 rfl (lv_at hl 0 rfl) ?_
    refine hp_get (v := .int (e_sz)) hx hb hts hown hZ fx9 fl_X1_46 rfl dX1_addChange_23 ?_
    refine lv_iload_n hx hb dX1_addChange_26 rfl (lv_at hl 2 rfl) ?_
    have fx10 : V2 (kb + 60) = some (.inl (cs 1, 2, .inl (mm))) := (o4 (kb + 60) (hq_ne kb 60 59 (by decide))).trans (hc2)
    refine hp_iast hx hb hZ fx10 (hq_in (by omega) (by omega)) dX1_addChange_27 (fun V11 _ _ e12 o13 hZ => ?_)
    have e12 : V11 (kb + 60) = some (.inl (cs 1, 2, .inl (upd (mm) ((e_sz : Int32).toNatClampNeg) (k2)))) := e12
    have hP := hP.put hy2 e12 o13 (hq_c2 (by omega) (hq_upd hf_2 (hq_rng _))) rfl
    obtain ⟨g14, ge15⟩ : ∃ g9 : Nat → Int32, g9 = upd (mm) ((e_sz : Int32).toNatClampNeg) (k2) := ⟨_, rfl⟩
    have fx16 : V11 (kb + 60) = some (.inl (cs 1, 2, .inl (g14))) := by rw [ge15]; exact e12
    have hf17 := hq_rg2 hP.1 hy2 fx16
    refine lv_aload_n hx hb dX1_addChange_28 rfl (lv_at hl 0 rfl) ?_
    have fx18 : V11 (kb + 50) = some (.inr (1, [.ref (kb + 51), .ref (kb + 52), .int (e_fd), .ref (kb + 53), .ref (kb + 55), .ref (kb + 57), .ref (qt), .ref (kb), .ref (kb + 5), .int (e_sz), .ref (kb + 59), .ref (kb + 60), .ref (kb + 61)])) := (o13 (kb + 50) (hq_tne hy0 hy2 (by simp))).trans (fx9)
    refine hp_get (v := .ref (kb + 61)) hx hb hts hown hZ fx18 fl_X1_43 rfl dX1_addChange_29 ?_
    refine lv_aload_n hx hb dX1_addChange_32 rfl (lv_at hl 0 rfl) ?_
    refine hp_get (v := .int (e_sz)) hx hb hts hown hZ fx18 fl_X1_46 rfl dX1_addChange_33 ?_
    refine lv_iload_n hx hb dX1_addChange_36 rfl (lv_at hl 3 rfl) ?_
    have fx19 : V11 (kb + 61) = some (.inl (cs 1, 2, .inl (tt_))) := (o13 (kb + 61) (hq_ne kb 61 60 (by decide))).trans ((o4 (kb + 61) (hq_ne kb 61 59 (by decide))).trans (hc3))
    refine hp_iast hx hb hZ fx19 (hq_in (by omega) (by omega)) dX1_addChange_37 (fun V20 _ _ e21 o22 hZ => ?_)
    have e21 : V20 (kb + 61) = some (.inl (cs 1, 2, .inl (upd (tt_) ((e_sz : Int32).toNatClampNeg) (k3)))) := e21
    have hP := hP.put hy3 e21 o22 (hq_c2 (by omega) (hq_upd hf_3 (hq_rng _))) rfl
    obtain ⟨g23, ge24⟩ : ∃ g9 : Nat → Int32, g9 = upd (tt_) ((e_sz : Int32).toNatClampNeg) (k3) := ⟨_, rfl⟩
    have fx25 : V20 (kb + 61) = some (.inl (cs 1, 2, .inl (g23))) := by rw [ge24]; exact e21
    have hf26 := hq_rg2 hP.1 hy3 fx25
    refine lv_aload_n hx hb dX1_addChange_38 rfl (lv_at hl 0 rfl) ?_
    refine lv_dup hx hb dX1_addChange_39 rfl ?_
    have fx27 : V20 (kb + 50) = some (.inr (1, [.ref (kb + 51), .ref (kb + 52), .int (e_fd), .ref (kb + 53), .ref (kb + 55), .ref (kb + 57), .ref (qt), .ref (kb), .ref (kb + 5), .int (e_sz), .ref (kb + 59), .ref (kb + 60), .ref (kb + 61)])) := (o22 (kb + 50) (hq_tne hy0 hy3 (by simp))).trans (fx18)
    refine hp_get (v := .int (e_sz)) hx hb hts hown hZ fx27 fl_X1_46 rfl dX1_addChange_40 ?_
    refine lv_iconst (v := 1) hx hb dX1_addChange_43 (by decide) ?_
    refine lv_iadd hx hb dX1_addChange_44 ?_
    refine lv_topi (fun y28 ey29 => ?_)
    obtain ⟨k30, hk31, b32, b33⟩ := hq_add (e_sz) (1)
    rw [← ey29] at hk31 b32 b33
    have hk31 : (y28).toInt = (e_sz).toInt + (1 : Int) + k30 * 4294967296 := hk31
    obtain rfl : k30 = 0 := by omega
    refine hp_put hx hb hts hown hZ fx27 fp_X1_46 rfl rfl (Nat.le_of_ble_eq_true rfl) dX1_addChange_45 (fun V34 _ _ e35 o36 hZ => ?_)
    have e35 : V34 (kb + 50) = some (.inr (1, [.ref (kb + 51), .ref (kb + 52), .int (e_fd), .ref (kb + 53), .ref (kb + 55), .ref (kb + 57), .ref (qt), .ref (kb), .ref (kb + 5), .int (y28), .ref (kb + 59), .ref (kb + 60), .ref (kb + 61)])) := e35
    have hP := hP.put hy0 e35 o36 (trivial) rfl
    have fx37 : V34 (kb + 59) = some (.inl (cs 1, 2, .inl (g5))) := (o36 (kb + 59) (hq_tne hy1 hy0 (by simp))).trans ((o22 (kb + 59) (hq_ne kb 59 61 (by decide))).trans ((o13 (kb + 59) (hq_ne kb 59 60 (by decide))).trans (fx7)))
    have fx38 : V34 (kb + 60) = some (.inl (cs 1, 2, .inl (g14))) := (o36 (kb + 60) (hq_tne hy2 hy0 (by simp))).trans ((o22 (kb + 60) (hq_ne kb 60 61 (by decide))).trans (fx16))
    have fx39 : V34 (kb + 61) = some (.inl (cs 1, 2, .inl (g23))) := (o36 (kb + 61) (hq_tne hy3 hy0 (by simp))).trans (fx25)
    exact hp_vret hx hb hr hlocks hZ ⟨rfl, hP, (fun x8 hne0 hne1 hne2 hne3 => (o36 x8 hne0).trans ((o22 x8 hne3).trans ((o13 x8 hne2).trans (o4 x8 hne1)))), y28, g5, g14, g23, e35, fx37, fx38, fx39, (by rw [ge6, ge15, ge24]; exact hL.snoc (by omega))⟩ dX1_addChange_48

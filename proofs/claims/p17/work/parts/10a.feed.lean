set_option maxHeartbeats 4000000 in
set_option maxRecDepth 100000 in
theorem x_feed (l : Launch) (D : va_G) (cs : Nat → ClassId) (B : Nat) (G : hq_G) (V : hp_V) (n : Nat) (hI : hq_I cs G V) (a : Nat) (kb : Nat) (qt : Nat) (qb : Nat) (w : sp_W) (k1 : Int32) (k2 : Int32) (k3 : Int32) (k4 : Int32) (k5 : Int32) (c_fs : Int32) (z : Int32) (f : Nat → Int32) (hy0 : G (a) = some (15, 0, 0, 0)) (hy1 : G (kb) = some (0, 4000, 0, 0)) (hy2 : G (kb + 1) = some (1, 4000, 0, 0)) (hc0 : V (a) = some (.inr (11, [.ref (kb), .ref (kb + 2), .ref (kb + 5), .ref (kb + 46), .ref (kb + 50), .ref (kb + 62), .ref (kb + 87), .int (c_fs), .ref (qt), .ref (qb)]))) (hc1 : V (kb) = some (.inr (9, [.ref (kb + 1), .int (z)]))) (hc2 : V (kb + 1) = some (.inl (cs 0, 4000, .inl (f)))) (hok : sp_okb w) (hw : (z.toInt = w.2 ∧ ∀ k : Nat, (k : Int) < w.2 → (f k).toInt = w.1 k)) : hp_M l yX11_feed cX11_feed 6 (some .int) ({ frames := 3, cells := 0, slots := 0, locals := 64 }) D cs B V n [.ref (a), .int (k1), .int (k2), .int (k3), .int (k4), .int (k5)] (hp_QI D cs B (fun r V' n' => n = n' ∧ hq_P cs G (fun _ => true) V V' ∧ (∀ x, x ≠ kb → x ≠ kb + 1 → V' x = V x) ∧ (∃ z1 : Int32, ∃ f1 : Nat → Int32, V' (kb) = some (.inr (9, [.ref (kb + 1), .int (z1)])) ∧ V' (kb + 1) = some (.inl (cs 0, 4000, .inl (f1))) ∧ ((w.2 ≤ 3980 ∧ z1.toInt = (sp_feed w k1 k2 k3 k4 k5).2 ∧ (∀ x : Nat, (x : Int) < (sp_feed w k1 k2 k3 k4 k5).2 → (f1 x).toInt = (sp_feed w k1 k2 k3 k4 k5).1 x) ∧ r.toInt = w.2 + 20) ∨ (¬ w.2 ≤ 3980 ∧ z1 = z ∧ f1 = f ∧ r.toInt = -3))))) 0 0 := by
  refine hp_walk (R0 := RX11) (by decide) rfl ?_ (Nat.le_of_ble_eq_true rfl)
  intro p e s m below meth c ls hx hb hr hts hown hlocks hin hml hZ hl
  have hP : hq_P cs G (fun _ => true) V V := hq_P.rf hI
  have hl : lv_has ls 6 [(0, .ref (a)), (1, .int (k1)), (2, .int (k2)), (3, .int (k3)), (4, .int (k4)), (5, .int (k5))] := hl
  have hb_k1 := hq_rng k1
  have hb_k2 := hq_rng k2
  have hb_k3 := hq_rng k3
  have hb_k4 := hq_rng k4
  have hb_k5 := hq_rng k5
  have hb_c_fs := hq_rng c_fs
  have hb_z := hq_rng z
  have hf_2 := hq_rgB hI hy2 hc2
  have hw1 := hw.1
  have hk1 := hok.1
  refine lv_aload_n hx hb dX11_feed_0 rfl (lv_at hl 0 rfl) ?_
  refine hp_get (v := .ref (kb)) hx hb hts hown hZ hc0 fl_X11_14 rfl dX11_feed_1 ?_
  refine hp_get (v := .int (z)) hx hb hts hown hZ hc1 fl_X11_71 rfl dX11_feed_4 ?_
  refine lv_bipush (v := 20) hx hb dX11_feed_7 (by decide) ?_
  refine lv_iadd hx hb dX11_feed_9 ?_
  refine lv_topi (fun y1 ey2 => ?_)
  obtain ⟨k3, hk4, b5, b6⟩ := hq_add (z) (20)
  rw [← ey2] at hk4 b5 b6
  have hk4 : (y1).toInt = (z).toInt + (20 : Int) + k3 * 4294967296 := hk4
  obtain rfl : k3 = 0 := by omega
  refine lv_sipush (v := 4000) hx hb dX11_feed_10 (by decide) ?_
  refine lv_icmp_le (tgt := 19) hx hb dX11_feed_13 (by decide) (fun c7 => ?_) (fun c7 => ?_)
  · have c7 : (y1).toInt ≤ (4000 : Int) := hq_lei.mp c7
    refine lv_aload_n hx hb dX11_feed_19 rfl (lv_at hl 0 rfl) ?_
    refine hp_get (v := .ref (kb)) hx hb hts hown hZ hc0 fl_X11_14 rfl dX11_feed_20 ?_
    refine lv_iload_n hx hb dX11_feed_23 rfl (lv_at hl 1 rfl) ?_
    refine hp_callv (hp_runV (As := [.int (k1)]) (rest := []) hx hb hml hown hts (x_addIntT l D cs B G V n hP.1 (kb) (w) (k1) (z) (f) hy1 hy2 hc1 hc2  hok hw (by omega)) hZ hc1 cv_X11_74 rfl rfl ⟨Nat.le_of_ble_eq_true rfl, Nat.le_of_ble_eq_true rfl⟩ rfl hl.1 rfl (Nat.le_of_ble_eq_true rfl) dX11_feed_24 ⟨(Nat.le_of_ble_eq_true rfl), (Nat.le_of_ble_eq_true rfl)⟩) hZ (fun V8 n9 _ _ hw10 hZ => ?_)
    obtain ⟨rfl, hq12, fr13, z14, u15, ho16, ho17, hp18, hp19⟩ := hw10
    have b20 := hq_rng z14
    have hP := hP.trans hq12 (fun _ h => Bool.noConfusion h)
    have hf21 := hq_rgB hP.1 hy2 ho17
    have hn24 : (sp_addI w k1).2 = (w).2 + 4 := sp_addI_n _ _
    have hw22 := And.intro hp18 hp19
    have hok23 := sp_okb_addI (a := k1) hok (by omega)
    refine lv_aload_n hx hb dX11_feed_27 rfl (lv_at hl 0 rfl) ?_
    have fx25 : V8 (a) = some (.inr (11, [.ref (kb), .ref (kb + 2), .ref (kb + 5), .ref (kb + 46), .ref (kb + 50), .ref (kb + 62), .ref (kb + 87), .int (c_fs), .ref (qt), .ref (qb)])) := (fr13 (a) (hq_tne hy0 hy1 (by simp)) (hq_tne hy0 hy2 (by simp))).trans (hc0)
    refine hp_get (v := .ref (kb)) hx hb hts hown hZ fx25 fl_X11_14 rfl dX11_feed_28 ?_
    refine lv_iload_n hx hb dX11_feed_31 rfl (lv_at hl 2 rfl) ?_
    refine hp_callv (hp_runV (As := [.int (k2)]) (rest := []) hx hb hml hown hts (x_addIntT l D cs B G V8 n hP.1 (kb) ((sp_addI w k1)) (k2) (z14) (u15) hy1 hy2 ho16 ho17  hok23 hw22 (by omega)) hZ ho16 cv_X11_74 rfl rfl ⟨Nat.le_of_ble_eq_true rfl, Nat.le_of_ble_eq_true rfl⟩ rfl hl.1 rfl (Nat.le_of_ble_eq_true rfl) dX11_feed_32 ⟨(Nat.le_of_ble_eq_true rfl), (Nat.le_of_ble_eq_true rfl)⟩) hZ (fun V26 n27 _ _ hw28 hZ => ?_)
    obtain ⟨rfl, hq30, fr31, z32, u33, ho34, ho35, hp36, hp37⟩ := hw28
    have b38 := hq_rng z32
    have hP := hP.trans hq30 (fun _ h => Bool.noConfusion h)
    have hf39 := hq_rgB hP.1 hy2 ho35
    have hn42 : (sp_addI (sp_addI w k1) k2).2 = ((sp_addI w k1)).2 + 4 := sp_addI_n _ _
    have hw40 := And.intro hp36 hp37
    have hok41 := sp_okb_addI (a := k2) hok23 (by omega)
    refine lv_aload_n hx hb dX11_feed_35 rfl (lv_at hl 0 rfl) ?_
    have fx43 : V26 (a) = some (.inr (11, [.ref (kb), .ref (kb + 2), .ref (kb + 5), .ref (kb + 46), .ref (kb + 50), .ref (kb + 62), .ref (kb + 87), .int (c_fs), .ref (qt), .ref (qb)])) := (fr31 (a) (hq_tne hy0 hy1 (by simp)) (hq_tne hy0 hy2 (by simp))).trans (fx25)
    refine hp_get (v := .ref (kb)) hx hb hts hown hZ fx43 fl_X11_14 rfl dX11_feed_36 ?_
    refine lv_iload_n hx hb dX11_feed_39 rfl (lv_at hl 3 rfl) ?_
    refine hp_callv (hp_runV (As := [.int (k3)]) (rest := []) hx hb hml hown hts (x_addIntT l D cs B G V26 n hP.1 (kb) ((sp_addI (sp_addI w k1) k2)) (k3) (z32) (u33) hy1 hy2 ho34 ho35  hok41 hw40 (by omega)) hZ ho34 cv_X11_74 rfl rfl ⟨Nat.le_of_ble_eq_true rfl, Nat.le_of_ble_eq_true rfl⟩ rfl hl.1 rfl (Nat.le_of_ble_eq_true rfl) dX11_feed_40 ⟨(Nat.le_of_ble_eq_true rfl), (Nat.le_of_ble_eq_true rfl)⟩) hZ (fun V44 n45 _ _ hw46 hZ => ?_)
    obtain ⟨rfl, hq48, fr49, z50, u51, ho52, ho53, hp54, hp55⟩ := hw46
    have b56 := hq_rng z50
    have hP := hP.trans hq48 (fun _ h => Bool.noConfusion h)
    have hf57 := hq_rgB hP.1 hy2 ho53
    have hn60 : (sp_addI (sp_addI (sp_addI w k1) k2) k3).2 = ((sp_addI (sp_addI w k1) k2)).2 + 4 := sp_addI_n _ _
    have hw58 := And.intro hp54 hp55
    have hok59 := sp_okb_addI (a := k3) hok41 (by omega)
    refine lv_aload_n hx hb dX11_feed_43 rfl (lv_at hl 0 rfl) ?_
    have fx61 : V44 (a) = some (.inr (11, [.ref (kb), .ref (kb + 2), .ref (kb + 5), .ref (kb + 46), .ref (kb + 50), .ref (kb + 62), .ref (kb + 87), .int (c_fs), .ref (qt), .ref (qb)])) := (fr49 (a) (hq_tne hy0 hy1 (by simp)) (hq_tne hy0 hy2 (by simp))).trans (fx43)
    refine hp_get (v := .ref (kb)) hx hb hts hown hZ fx61 fl_X11_14 rfl dX11_feed_44 ?_
    refine lv_iload hx hb dX11_feed_47 (lv_at hl 4 rfl) ?_
    refine hp_callv (hp_runV (As := [.int (k4)]) (rest := []) hx hb hml hown hts (x_addIntT l D cs B G V44 n hP.1 (kb) ((sp_addI (sp_addI (sp_addI w k1) k2) k3)) (k4) (z50) (u51) hy1 hy2 ho52 ho53  hok59 hw58 (by omega)) hZ ho52 cv_X11_74 rfl rfl ⟨Nat.le_of_ble_eq_true rfl, Nat.le_of_ble_eq_true rfl⟩ rfl hl.1 rfl (Nat.le_of_ble_eq_true rfl) dX11_feed_49 ⟨(Nat.le_of_ble_eq_true rfl), (Nat.le_of_ble_eq_true rfl)⟩) hZ (fun V62 n63 _ _ hw64 hZ => ?_)
    obtain ⟨rfl, hq66, fr67, z68, u69, ho70, ho71, hp72, hp73⟩ := hw64
    have b74 := hq_rng z68
    have hP := hP.trans hq66 (fun _ h => Bool.noConfusion h)
    have hf75 := hq_rgB hP.1 hy2 ho71
    have hn78 : (sp_addI (sp_addI (sp_addI (sp_addI w k1) k2) k3) k4).2 = ((sp_addI (sp_addI (sp_addI w k1) k2) k3)).2 + 4 := sp_addI_n _ _
    have hw76 := And.intro hp72 hp73
    have hok77 := sp_okb_addI (a := k4) hok59 (by omega)
    refine lv_aload_n hx hb dX11_feed_52 rfl (lv_at hl 0 rfl) ?_
    have fx79 : V62 (a) = some (.inr (11, [.ref (kb), .ref (kb + 2), .ref (kb + 5), .ref (kb + 46), .ref (kb + 50), .ref (kb + 62), .ref (kb + 87), .int (c_fs), .ref (qt), .ref (qb)])) := (fr67 (a) (hq_tne hy0 hy1 (by simp)) (hq_tne hy0 hy2 (by simp))).trans (fx61)
    refine hp_get (v := .ref (kb)) hx hb hts hown hZ fx79 fl_X11_14 rfl dX11_feed_53 ?_
    refine lv_iload hx hb dX11_feed_56 (lv_at hl 5 rfl) ?_
    refine hp_callv (hp_runV (As := [.int (k5)]) (rest := []) hx hb hml hown hts (x_addIntT l D cs B G V62 n hP.1 (kb) ((sp_addI (sp_addI (sp_addI (sp_addI w k1) k2) k3) k4)) (k5) (z68) (u69) hy1 hy2 ho70 ho71  hok77 hw76 (by omega)) hZ ho70 cv_X11_74 rfl rfl ⟨Nat.le_of_ble_eq_true rfl, Nat.le_of_ble_eq_true rfl⟩ rfl hl.1 rfl (Nat.le_of_ble_eq_true rfl) dX11_feed_58 ⟨(Nat.le_of_ble_eq_true rfl), (Nat.le_of_ble_eq_true rfl)⟩) hZ (fun V80 n81 _ _ hw82 hZ => ?_)
    obtain ⟨rfl, hq84, fr85, z86, u87, ho88, ho89, hp90, hp91⟩ := hw82
    have b92 := hq_rng z86
    have hP := hP.trans hq84 (fun _ h => Bool.noConfusion h)
    have hf93 := hq_rgB hP.1 hy2 ho89
    have hn96 : (sp_addI (sp_addI (sp_addI (sp_addI (sp_addI w k1) k2) k3) k4) k5).2 = ((sp_addI (sp_addI (sp_addI (sp_addI w k1) k2) k3) k4)).2 + 4 := sp_addI_n _ _
    have hw94 := And.intro hp90 hp91
    have hok95 := sp_okb_addI (a := k5) hok77 (by omega)
    refine lv_aload_n hx hb dX11_feed_61 rfl (lv_at hl 0 rfl) ?_
    have fx97 : V80 (a) = some (.inr (11, [.ref (kb), .ref (kb + 2), .ref (kb + 5), .ref (kb + 46), .ref (kb + 50), .ref (kb + 62), .ref (kb + 87), .int (c_fs), .ref (qt), .ref (qb)])) := (fr85 (a) (hq_tne hy0 hy1 (by simp)) (hq_tne hy0 hy2 (by simp))).trans (fx79)
    refine hp_get (v := .ref (kb)) hx hb hts hown hZ fx97 fl_X11_14 rfl dX11_feed_62 ?_
    refine hp_get (v := .int (z86)) hx hb hts hown hZ ho88 fl_X11_71 rfl dX11_feed_65 ?_
    exact hp_iret hx hb hr hlocks hZ ⟨rfl, hP, (fun x8 hne0 hne1 => (fr85 x8 hne0 hne1).trans ((fr67 x8 hne0 hne1).trans ((fr49 x8 hne0 hne1).trans ((fr31 x8 hne0 hne1).trans (fr13 x8 hne0 hne1))))), z86, u87, ho88, ho89, Or.inl ⟨by omega, hw94.1, hw94.2, by omega⟩⟩ dX11_feed_68
  · have c7 : ¬ (y1).toInt ≤ (4000 : Int) := fun h9 => c7 (hq_lei.mpr h9)
    refine lv_bipush (v := -3) hx hb dX11_feed_16 (by decide) ?_
    have hl98 : (-3 : Int32).toInt = -3 := by decide
    have hl9 : (-3 : Int32).toInt = -3 := by decide
    exact hp_iret hx hb hr hlocks hZ ⟨rfl, hP, (fun x8 hne0 hne1 => rfl), z, f, hc1, hc2, Or.inr ⟨by omega, rfl, rfl, by omega⟩⟩ dX11_feed_18

set_option maxHeartbeats 4000000 in
set_option maxRecDepth 100000 in
theorem x_end (l : Launch) (D : va_G) (cs : Nat → ClassId) (B : Nat) (G : hq_G) (V : hp_V) (n : Nat) (hI : hq_I cs G V) (a : Nat) (kb : Nat) (qt : Nat) (qb : Nat) (k : Int32) (c_fs : Int32) (z : Int32) (hy0 : G (a) = some (15, 0, 0, 0)) (hy1 : G (kb) = some (0, 4000, 0, 0)) (hy2 : G (kb + 1) = some (1, 4000, 0, 0)) (hc0 : V (a) = some (.inr (11, [.ref (kb), .ref (kb + 2), .ref (kb + 5), .ref (kb + 46), .ref (kb + 50), .ref (kb + 62), .ref (kb + 87), .int (c_fs), .ref (qt), .ref (qb)]))) (hc1 : V (kb) = some (.inr (9, [.ref (kb + 1), .int (z)]))) (hz : 0 ≤ z.toInt ∧ z.toInt ≤ 4000) : hp_M l yX11_end cX11_end 2 (some .int) ({ frames := 1, cells := 0, slots := 0, locals := 21 }) D cs B V n [.ref (a), .int (k)] (hp_QI D cs B (fun r V' n' => n = n' ∧ hq_P cs G (fun _ => true) V V' ∧ (∀ x, x ≠ kb → V' x = V x) ∧ (∃ z1 : Int32, V' (kb) = some (.inr (9, [.ref (kb + 1), .int (z1)])) ∧ ((0 ≤ k.toInt ∧ k.toInt ≤ z.toInt ∧ z1.toInt = k.toInt ∧ r.toInt = k.toInt) ∨ (¬ (0 ≤ k.toInt ∧ k.toInt ≤ z.toInt) ∧ z1.toInt = z.toInt ∧ r.toInt = -1))))) 0 0 := by
  refine hp_walk (R0 := RX11) (by decide) rfl ?_ (Nat.le_of_ble_eq_true rfl)
  intro p e s m below meth c ls hx hb hr hts hown hlocks hin hml hZ hl
  have hP : hq_P cs G (fun _ => true) V V := hq_P.rf hI
  have hl : lv_has ls 2 [(0, .ref (a)), (1, .int (k))] := hl
  have hb_k := hq_rng k
  have hb_c_fs := hq_rng c_fs
  have hb_z := hq_rng z
  refine lv_iload_n hx hb dX11_end_0 rfl (lv_at hl 1 rfl) ?_
  refine lv_if_lt (tgt := 15) hx hb dX11_end_1 (by decide) (fun c1 => ?_) (fun c1 => ?_)
  · have c1 : (k).toInt < (0 : Int) := hq_lti.mp c1
    refine lv_iconst (v := -1) hx hb dX11_end_15 (by decide) ?_
    have hl2 : (-1 : Int32).toInt = -1 := by decide
    have hl9 : (-1 : Int32).toInt = -1 := by decide
    exact hp_iret hx hb hr hlocks hZ ⟨rfl, hP, (fun x8 hne0 => rfl), z, hc1, by omega⟩ dX11_end_16
  · have c1 : ¬ (k).toInt < (0 : Int) := fun h9 => c1 (hq_lti.mpr h9)
    refine lv_iload_n hx hb dX11_end_4 rfl (lv_at hl 1 rfl) ?_
    refine lv_aload_n hx hb dX11_end_5 rfl (lv_at hl 0 rfl) ?_
    refine hp_get (v := .ref (kb)) hx hb hts hown hZ hc0 fl_X11_14 rfl dX11_end_6 ?_
    refine hp_get (v := .int (z)) hx hb hts hown hZ hc1 fl_X11_71 rfl dX11_end_9 ?_
    refine lv_icmp_le (tgt := 17) hx hb dX11_end_12 (by decide) (fun c3 => ?_) (fun c3 => ?_)
    · have c3 : (k).toInt ≤ (z).toInt := hq_lei.mp c3
      refine lv_aload_n hx hb dX11_end_17 rfl (lv_at hl 0 rfl) ?_
      refine hp_get (v := .ref (kb)) hx hb hts hown hZ hc0 fl_X11_14 rfl dX11_end_18 ?_
      refine lv_iload_n hx hb dX11_end_21 rfl (lv_at hl 1 rfl) ?_
      refine hp_put hx hb hts hown hZ hc1 fp_X11_71 rfl rfl (Nat.le_of_ble_eq_true rfl) dX11_end_22 (fun V4 _ _ e5 o6 hZ => ?_)
      have e5 : V4 (kb) = some (.inr (9, [.ref (kb + 1), .int (k)])) := e5
      have hP := hP.put hy1 e5 o6 (hq_c0 hy2 (show 0 ≤ (k).toInt by omega) (show (k).toInt ≤ (4000 : Nat) by omega) (by omega) (by first | rfl | omega)) rfl
      refine lv_iload_n hx hb dX11_end_25 rfl (lv_at hl 1 rfl) ?_
      exact hp_iret hx hb hr hlocks hZ ⟨rfl, hP, (fun x8 hne0 => o6 x8 hne0), k, e5, by omega⟩ dX11_end_26
    · have c3 : ¬ (k).toInt ≤ (z).toInt := fun h9 => c3 (hq_lei.mpr h9)
      refine lv_iconst (v := -1) hx hb dX11_end_15 (by decide) ?_
      have hl7 : (-1 : Int32).toInt = -1 := by decide
      have hl9 : (-1 : Int32).toInt = -1 := by decide
      exact hp_iret hx hb hr hlocks hZ ⟨rfl, hP, (fun x8 hne0 => rfl), z, hc1, by omega⟩ dX11_end_16

set_option maxHeartbeats 4000000 in
set_option maxRecDepth 100000 in
theorem y_lay (l : Launch) (D : va_G) (cs : Nat → ClassId) (B : Nat) (G : hq_G) (V : hp_V) (n : Nat) (hI : hq_I cs G V) (q : Nat) (mo : Nat) (w : sp_W) (m_tp : Int32) (m_sz : Int32) (m_fr : Int32) (m_bh : Int32) (m_hd : Int32) (m_ft : Int32) (m_fa : Int32) (m_le : Int32) (m_fo : Int32) (m_as : Int32) (m_fd : Int32) (m_bc : Int32) (m_bg : Int32) (m_bs : Int32) (m_be : Int32) (m_b0 : Int32) (m_b1 : Int32) (m_cm : Int32) (m_hc : Int32) (v : Int32) (tg : Nat → Int32) (hc0 : V (mo) = some (.inr (13, hm_o q (m_tp) (m_sz) (m_fr) (m_bh) (m_hd) (m_ft) (m_fa) (m_le) (m_fo) (m_as) (m_fd) (m_bc) (m_bg) (m_bs) (m_be) (m_b0) (m_b1) (m_cm) (m_hc)))) (hc1 : V (q + 20) = some (.inl (cs 0, 4000, .inl (tg)))) (hR : hq_RT G q) (hmo : G mo = some (24, 0, 0, 0)) (hmq : mo < q) (hok : sp_okb w) (hw : (m_tp.toInt = w.2 ∧ ∀ k : Nat, (k : Int) < w.2 → (tg k).toInt = w.1 k)) (hn : w.2 + 4 ≤ 4000) : hp_M l yX13_lay cX13_lay 3 none ({ frames := 1, cells := 0, slots := 0, locals := 21 }) D cs B V n [.ref (mo), .int (v)] (hp_QV D cs B (fun V' n' => n = n' ∧ hq_P cs G (fun _ => true) V V' ∧ (∀ x, x ≠ mo → x ≠ q + 20 → V' x = V x) ∧ (∃ m_tp1 : Int32, ∃ tg1 : Nat → Int32, V' (mo) = some (.inr (13, hm_o q (m_tp1) (m_sz) (m_fr) (m_bh) (m_hd) (m_ft) (m_fa) (m_le) (m_fo) (m_as) (m_fd) (m_bc) (m_bg) (m_bs) (m_be) (m_b0) (m_b1) (m_cm) (m_hc))) ∧ V' (q + 20) = some (.inl (cs 0, 4000, .inl (tg1))) ∧ (m_tp1.toInt = (sp_addI w v).2) ∧ (∀ x : Nat, (x : Int) < (sp_addI w v).2 → (tg1 x).toInt = (sp_addI w v).1 x)))) 0 0 := by
  refine hp_walk (R0 := RX13) (by decide) rfl ?_ (Nat.le_of_ble_eq_true rfl)
  intro p e s m below meth c ls hx hb hr hts hown hlocks hin hml hZ hl
  have hP : hq_P cs G (fun _ => true) V V := hq_P.rf hI
  have hl : lv_has ls 3 [(0, .ref (mo)), (1, .int (v))] := hl
  have hb_m_tp := hq_rng m_tp
  have hb_m_sz := hq_rng m_sz
  have hb_m_fr := hq_rng m_fr
  have hb_m_bh := hq_rng m_bh
  have hb_m_hd := hq_rng m_hd
  have hb_m_ft := hq_rng m_ft
  have hb_m_fa := hq_rng m_fa
  have hb_m_le := hq_rng m_le
  have hb_m_fo := hq_rng m_fo
  have hb_m_as := hq_rng m_as
  have hb_m_fd := hq_rng m_fd
  have hb_m_bc := hq_rng m_bc
  have hb_m_bg := hq_rng m_bg
  have hb_m_bs := hq_rng m_bs
  have hb_m_be := hq_rng m_be
  have hb_m_b0 := hq_rng m_b0
  have hb_m_b1 := hq_rng m_b1
  have hb_m_cm := hq_rng m_cm
  have hb_m_hc := hq_rng m_hc
  have hb_v := hq_rng v
  have hw1 := hw.1
  have hk1 := hok.1
  refine lv_bipush (v := 24) hx hb dX13_lay_0 (by decide) ?_
  refine lv_istore_n (lv' := [(2, .int (24)), (0, .ref (mo)), (1, .int (v))]) hx hb dX13_lay_2 rfl hl (by decide) rfl (fun ls hl => ?_)
  refine lv_iload_n hx hb dX13_lay_3 rfl (lv_at hl 0 rfl) ?_
  refine lv_if_lt (tgt := 36) hx hb dX13_lay_4 (by decide) (fun c1 => absurd c1 (by decide)) (fun c1 => ?_)
  refine lv_aload_n hx hb dX13_lay_7 rfl (lv_at hl 1 rfl) ?_
  refine hp_get (v := .ref (q + 20)) hx hb hts hown hZ hc0 fl_X13_73 rfl dX13_lay_8 ?_
  refine lv_aload_n hx hb dX13_lay_11 rfl (lv_at hl 1 rfl) ?_
  refine hp_get (v := .int (m_tp)) hx hb hts hown hZ hc0 fl_X13_295 rfl dX13_lay_12 ?_
  refine lv_iload_n hx hb dX13_lay_15 rfl (lv_at hl 2 rfl) ?_
  refine lv_iload_n hx hb dX13_lay_16 rfl (lv_at hl 0 rfl) ?_
  refine lv_ishr hx hb dX13_lay_17 ?_
  refine lv_topi (fun y2 ey3 => ?_)
  have b4 := hq_rng y2
  refine lv_i2b (v := (y2).toInt8.toInt32) hx hb dX13_lay_18 rfl ?_
  refine lv_topi (fun y5 ey6 => ?_)
  have b7 := hq_rng y5
  refine hp_bast hx hb hZ hc1 (hq_in (by omega) (by omega)) dX13_lay_19 (fun V8 _ _ e9 o10 hZ => ?_)
  have e9 : V8 (q + 20) = some (.inl (cs 0, 4000, .inl (upd (tg) ((m_tp : Int32).toNatClampNeg) ((y5 : Int32).toInt8.toInt32)))) := e9
  have hP := hP.put (hr_20 hR) e9 o10 (hq_c20 (by omega)) rfl
  obtain ⟨g11, ge12⟩ : ∃ g9 : Nat → Int32, g9 = upd (tg) ((m_tp : Int32).toNatClampNeg) ((y5 : Int32).toInt8.toInt32) := ⟨_, rfl⟩
  have fx13 : V8 (q + 20) = some (.inl (cs 0, 4000, .inl (g11))) := by rw [ge12]; exact e9
  have hf14 := hq_rg20 hP.1 (hr_20 hR) fx13
  refine lv_aload_n hx hb dX13_lay_20 rfl (lv_at hl 1 rfl) ?_
  refine lv_dup hx hb dX13_lay_21 rfl ?_
  have fx15 : V8 (mo) = some (.inr (13, hm_o q (m_tp) (m_sz) (m_fr) (m_bh) (m_hd) (m_ft) (m_fa) (m_le) (m_fo) (m_as) (m_fd) (m_bc) (m_bg) (m_bs) (m_be) (m_b0) (m_b1) (m_cm) (m_hc))) := (o10 (mo) (hq_tne hmo (hr_20 hR) (by simp))).trans (hc0)
  refine hp_get (v := .int (m_tp)) hx hb hts hown hZ fx15 fl_X13_295 rfl dX13_lay_22 ?_
  refine lv_iconst (v := 1) hx hb dX13_lay_25 (by decide) ?_
  refine lv_iadd hx hb dX13_lay_26 ?_
  refine lv_topi (fun y16 ey17 => ?_)
  obtain ⟨k18, hk19, b20, b21⟩ := hq_add (m_tp) (1)
  rw [← ey17] at hk19 b20 b21
  have hk19 : (y16).toInt = (m_tp).toInt + (1 : Int) + k18 * 4294967296 := hk19
  obtain rfl : k18 = 0 := by omega
  refine hp_put hx hb hts hown hZ fx15 fp_X13_295 rfl rfl (Nat.le_of_ble_eq_true rfl) dX13_lay_27 (fun V22 _ _ e23 o24 hZ => ?_)
  have e23 : V22 (mo) = some (.inr (13, hm_o q (y16) (m_sz) (m_fr) (m_bh) (m_hd) (m_ft) (m_fa) (m_le) (m_fo) (m_as) (m_fd) (m_bc) (m_bg) (m_bs) (m_be) (m_b0) (m_b1) (m_cm) (m_hc))) := e23
  have hP := hP.put hmo e23 o24 (trivial) rfl
  have fx25 : V22 (q + 20) = some (.inl (cs 0, 4000, .inl (g11))) := (o24 (q + 20) (hq_tne (hr_20 hR) hmo (by simp))).trans (fx13)
  have hx26 : ((y5 : Int32).toInt8.toInt32).toInt = sp_fb v 24 := by rw [ey6, hx_n88, ey3]; rfl
  have hg27 := sp_add_g (w := w) (by omega) hw.2 (by omega) ge12
  rw [hx26] at hg27
  have hn30 : (sp_add w (sp_fb v 24)).2 = (w).2 + 1 := rfl
  have hw28 := And.intro (show (y16).toInt = (sp_add w (sp_fb v 24)).2 by omega) hg27
  have hok29 := sp_okb_add hok (by omega) (sp_fb_rg v 24)
  have b31 := hok29.1
  refine lv_iinc (v := 16) (lv' := [(2, .int (16)), (0, .ref (mo)), (1, .int (v))]) hx hb dX13_lay_30 hl (k := 0) rfl (by decide) (by decide) rfl (fun ls hl => ?_)
  refine lv_goto (tgt := 3) hx hb dX13_lay_33 (by decide) ?_
  refine lv_iload_n hx hb dX13_lay_3 rfl (lv_at hl 0 rfl) ?_
  refine lv_if_lt (tgt := 36) hx hb dX13_lay_4 (by decide) (fun c32 => absurd c32 (by decide)) (fun c32 => ?_)
  refine lv_aload_n hx hb dX13_lay_7 rfl (lv_at hl 1 rfl) ?_
  refine hp_get (v := .ref (q + 20)) hx hb hts hown hZ e23 fl_X13_73 rfl dX13_lay_8 ?_
  refine lv_aload_n hx hb dX13_lay_11 rfl (lv_at hl 1 rfl) ?_
  refine hp_get (v := .int (y16)) hx hb hts hown hZ e23 fl_X13_295 rfl dX13_lay_12 ?_
  refine lv_iload_n hx hb dX13_lay_15 rfl (lv_at hl 2 rfl) ?_
  refine lv_iload_n hx hb dX13_lay_16 rfl (lv_at hl 0 rfl) ?_
  refine lv_ishr hx hb dX13_lay_17 ?_
  refine lv_topi (fun y33 ey34 => ?_)
  have b35 := hq_rng y33
  refine lv_i2b (v := (y33).toInt8.toInt32) hx hb dX13_lay_18 rfl ?_
  refine lv_topi (fun y36 ey37 => ?_)
  have b38 := hq_rng y36
  refine hp_bast hx hb hZ fx25 (hq_in (by omega) (by omega)) dX13_lay_19 (fun V39 _ _ e40 o41 hZ => ?_)
  have e40 : V39 (q + 20) = some (.inl (cs 0, 4000, .inl (upd (g11) ((y16 : Int32).toNatClampNeg) ((y36 : Int32).toInt8.toInt32)))) := e40
  have hP := hP.put (hr_20 hR) e40 o41 (hq_c20 (by omega)) rfl
  obtain ⟨g42, ge43⟩ : ∃ g9 : Nat → Int32, g9 = upd (g11) ((y16 : Int32).toNatClampNeg) ((y36 : Int32).toInt8.toInt32) := ⟨_, rfl⟩
  have fx44 : V39 (q + 20) = some (.inl (cs 0, 4000, .inl (g42))) := by rw [ge43]; exact e40
  have hf45 := hq_rg20 hP.1 (hr_20 hR) fx44
  refine lv_aload_n hx hb dX13_lay_20 rfl (lv_at hl 1 rfl) ?_
  refine lv_dup hx hb dX13_lay_21 rfl ?_
  have fx46 : V39 (mo) = some (.inr (13, hm_o q (y16) (m_sz) (m_fr) (m_bh) (m_hd) (m_ft) (m_fa) (m_le) (m_fo) (m_as) (m_fd) (m_bc) (m_bg) (m_bs) (m_be) (m_b0) (m_b1) (m_cm) (m_hc))) := (o41 (mo) (hq_tne hmo (hr_20 hR) (by simp))).trans (e23)
  refine hp_get (v := .int (y16)) hx hb hts hown hZ fx46 fl_X13_295 rfl dX13_lay_22 ?_
  refine lv_iconst (v := 1) hx hb dX13_lay_25 (by decide) ?_
  refine lv_iadd hx hb dX13_lay_26 ?_
  refine lv_topi (fun y47 ey48 => ?_)
  obtain ⟨k49, hk50, b51, b52⟩ := hq_add (y16) (1)
  rw [← ey48] at hk50 b51 b52
  have hk50 : (y47).toInt = (y16).toInt + (1 : Int) + k49 * 4294967296 := hk50
  obtain rfl : k49 = 0 := by omega
  refine hp_put hx hb hts hown hZ fx46 fp_X13_295 rfl rfl (Nat.le_of_ble_eq_true rfl) dX13_lay_27 (fun V53 _ _ e54 o55 hZ => ?_)
  have e54 : V53 (mo) = some (.inr (13, hm_o q (y47) (m_sz) (m_fr) (m_bh) (m_hd) (m_ft) (m_fa) (m_le) (m_fo) (m_as) (m_fd) (m_bc) (m_bg) (m_bs) (m_be) (m_b0) (m_b1) (m_cm) (m_hc))) := e54
  have hP := hP.put hmo e54 o55 (trivial) rfl
  have fx56 : V53 (q + 20) = some (.inl (cs 0, 4000, .inl (g42))) := (o55 (q + 20) (hq_tne (hr_20 hR) hmo (by simp))).trans (fx44)
  have hx57 : ((y36 : Int32).toInt8.toInt32).toInt = sp_fb v 16 := by rw [ey37, hx_n88, ey34]; rfl
  have hg58 := sp_add_g (w := (sp_add w (sp_fb v 24))) (by omega) hw28.2 (by omega) ge43
  rw [hx57] at hg58
  have hn61 : (sp_add (sp_add w (sp_fb v 24)) (sp_fb v 16)).2 = ((sp_add w (sp_fb v 24))).2 + 1 := rfl
  have hw59 := And.intro (show (y47).toInt = (sp_add (sp_add w (sp_fb v 24)) (sp_fb v 16)).2 by omega) hg58
  have hok60 := sp_okb_add hok29 (by omega) (sp_fb_rg v 16)
  have b62 := hok60.1
  refine lv_iinc (v := 8) (lv' := [(2, .int (8)), (0, .ref (mo)), (1, .int (v))]) hx hb dX13_lay_30 hl (k := 0) rfl (by decide) (by decide) rfl (fun ls hl => ?_)
  refine lv_goto (tgt := 3) hx hb dX13_lay_33 (by decide) ?_
  refine lv_iload_n hx hb dX13_lay_3 rfl (lv_at hl 0 rfl) ?_
  refine lv_if_lt (tgt := 36) hx hb dX13_lay_4 (by decide) (fun c63 => absurd c63 (by decide)) (fun c63 => ?_)
  refine lv_aload_n hx hb dX13_lay_7 rfl (lv_at hl 1 rfl) ?_
  refine hp_get (v := .ref (q + 20)) hx hb hts hown hZ e54 fl_X13_73 rfl dX13_lay_8 ?_
  refine lv_aload_n hx hb dX13_lay_11 rfl (lv_at hl 1 rfl) ?_
  refine hp_get (v := .int (y47)) hx hb hts hown hZ e54 fl_X13_295 rfl dX13_lay_12 ?_
  refine lv_iload_n hx hb dX13_lay_15 rfl (lv_at hl 2 rfl) ?_
  refine lv_iload_n hx hb dX13_lay_16 rfl (lv_at hl 0 rfl) ?_
  refine lv_ishr hx hb dX13_lay_17 ?_
  refine lv_topi (fun y64 ey65 => ?_)
  have b66 := hq_rng y64
  refine lv_i2b (v := (y64).toInt8.toInt32) hx hb dX13_lay_18 rfl ?_
  refine lv_topi (fun y67 ey68 => ?_)
  have b69 := hq_rng y67
  refine hp_bast hx hb hZ fx56 (hq_in (by omega) (by omega)) dX13_lay_19 (fun V70 _ _ e71 o72 hZ => ?_)
  have e71 : V70 (q + 20) = some (.inl (cs 0, 4000, .inl (upd (g42) ((y47 : Int32).toNatClampNeg) ((y67 : Int32).toInt8.toInt32)))) := e71
  have hP := hP.put (hr_20 hR) e71 o72 (hq_c20 (by omega)) rfl
  obtain ⟨g73, ge74⟩ : ∃ g9 : Nat → Int32, g9 = upd (g42) ((y47 : Int32).toNatClampNeg) ((y67 : Int32).toInt8.toInt32) := ⟨_, rfl⟩
  have fx75 : V70 (q + 20) = some (.inl (cs 0, 4000, .inl (g73))) := by rw [ge74]; exact e71
  have hf76 := hq_rg20 hP.1 (hr_20 hR) fx75
  refine lv_aload_n hx hb dX13_lay_20 rfl (lv_at hl 1 rfl) ?_
  refine lv_dup hx hb dX13_lay_21 rfl ?_
  have fx77 : V70 (mo) = some (.inr (13, hm_o q (y47) (m_sz) (m_fr) (m_bh) (m_hd) (m_ft) (m_fa) (m_le) (m_fo) (m_as) (m_fd) (m_bc) (m_bg) (m_bs) (m_be) (m_b0) (m_b1) (m_cm) (m_hc))) := (o72 (mo) (hq_tne hmo (hr_20 hR) (by simp))).trans (e54)
  refine hp_get (v := .int (y47)) hx hb hts hown hZ fx77 fl_X13_295 rfl dX13_lay_22 ?_
  refine lv_iconst (v := 1) hx hb dX13_lay_25 (by decide) ?_
  refine lv_iadd hx hb dX13_lay_26 ?_
  refine lv_topi (fun y78 ey79 => ?_)
  obtain ⟨k80, hk81, b82, b83⟩ := hq_add (y47) (1)
  rw [← ey79] at hk81 b82 b83
  have hk81 : (y78).toInt = (y47).toInt + (1 : Int) + k80 * 4294967296 := hk81
  obtain rfl : k80 = 0 := by omega
  refine hp_put hx hb hts hown hZ fx77 fp_X13_295 rfl rfl (Nat.le_of_ble_eq_true rfl) dX13_lay_27 (fun V84 _ _ e85 o86 hZ => ?_)
  have e85 : V84 (mo) = some (.inr (13, hm_o q (y78) (m_sz) (m_fr) (m_bh) (m_hd) (m_ft) (m_fa) (m_le) (m_fo) (m_as) (m_fd) (m_bc) (m_bg) (m_bs) (m_be) (m_b0) (m_b1) (m_cm) (m_hc))) := e85
  have hP := hP.put hmo e85 o86 (trivial) rfl
  have fx87 : V84 (q + 20) = some (.inl (cs 0, 4000, .inl (g73))) := (o86 (q + 20) (hq_tne (hr_20 hR) hmo (by simp))).trans (fx75)
  have hx88 : ((y67 : Int32).toInt8.toInt32).toInt = sp_fb v 8 := by rw [ey68, hx_n88, ey65]; rfl
  have hg89 := sp_add_g (w := (sp_add (sp_add w (sp_fb v 24)) (sp_fb v 16))) (by omega) hw59.2 (by omega) ge74
  rw [hx88] at hg89
  have hn92 : (sp_add (sp_add (sp_add w (sp_fb v 24)) (sp_fb v 16)) (sp_fb v 8)).2 = ((sp_add (sp_add w (sp_fb v 24)) (sp_fb v 16))).2 + 1 := rfl
  have hw90 := And.intro (show (y78).toInt = (sp_add (sp_add (sp_add w (sp_fb v 24)) (sp_fb v 16)) (sp_fb v 8)).2 by omega) hg89
  have hok91 := sp_okb_add hok60 (by omega) (sp_fb_rg v 8)
  have b93 := hok91.1
  refine lv_iinc (v := 0) (lv' := [(2, .int (0)), (0, .ref (mo)), (1, .int (v))]) hx hb dX13_lay_30 hl (k := 0) rfl (by decide) (by decide) rfl (fun ls hl => ?_)
  refine lv_goto (tgt := 3) hx hb dX13_lay_33 (by decide) ?_
  refine lv_iload_n hx hb dX13_lay_3 rfl (lv_at hl 0 rfl) ?_
  refine lv_if_lt (tgt := 36) hx hb dX13_lay_4 (by decide) (fun c94 => absurd c94 (by decide)) (fun c94 => ?_)
  refine lv_aload_n hx hb dX13_lay_7 rfl (lv_at hl 1 rfl) ?_
  refine hp_get (v := .ref (q + 20)) hx hb hts hown hZ e85 fl_X13_73 rfl dX13_lay_8 ?_
  refine lv_aload_n hx hb dX13_lay_11 rfl (lv_at hl 1 rfl) ?_
  refine hp_get (v := .int (y78)) hx hb hts hown hZ e85 fl_X13_295 rfl dX13_lay_12 ?_
  refine lv_iload_n hx hb dX13_lay_15 rfl (lv_at hl 2 rfl) ?_
  refine lv_iload_n hx hb dX13_lay_16 rfl (lv_at hl 0 rfl) ?_
  refine lv_ishr hx hb dX13_lay_17 ?_
  refine lv_topi (fun y95 ey96 => ?_)
  have b97 := hq_rng y95
  refine lv_i2b (v := (y95).toInt8.toInt32) hx hb dX13_lay_18 rfl ?_
  refine lv_topi (fun y98 ey99 => ?_)
  have b100 := hq_rng y98
  refine hp_bast hx hb hZ fx87 (hq_in (by omega) (by omega)) dX13_lay_19 (fun V101 _ _ e102 o103 hZ => ?_)
  have e102 : V101 (q + 20) = some (.inl (cs 0, 4000, .inl (upd (g73) ((y78 : Int32).toNatClampNeg) ((y98 : Int32).toInt8.toInt32)))) := e102
  have hP := hP.put (hr_20 hR) e102 o103 (hq_c20 (by omega)) rfl
  obtain ⟨g104, ge105⟩ : ∃ g9 : Nat → Int32, g9 = upd (g73) ((y78 : Int32).toNatClampNeg) ((y98 : Int32).toInt8.toInt32) := ⟨_, rfl⟩
  have fx106 : V101 (q + 20) = some (.inl (cs 0, 4000, .inl (g104))) := by rw [ge105]; exact e102
  have hf107 := hq_rg20 hP.1 (hr_20 hR) fx106
  refine lv_aload_n hx hb dX13_lay_20 rfl (lv_at hl 1 rfl) ?_
  refine lv_dup hx hb dX13_lay_21 rfl ?_
  have fx108 : V101 (mo) = some (.inr (13, hm_o q (y78) (m_sz) (m_fr) (m_bh) (m_hd) (m_ft) (m_fa) (m_le) (m_fo) (m_as) (m_fd) (m_bc) (m_bg) (m_bs) (m_be) (m_b0) (m_b1) (m_cm) (m_hc))) := (o103 (mo) (hq_tne hmo (hr_20 hR) (by simp))).trans (e85)
  refine hp_get (v := .int (y78)) hx hb hts hown hZ fx108 fl_X13_295 rfl dX13_lay_22 ?_
  refine lv_iconst (v := 1) hx hb dX13_lay_25 (by decide) ?_
  refine lv_iadd hx hb dX13_lay_26 ?_
  refine lv_topi (fun y109 ey110 => ?_)
  obtain ⟨k111, hk112, b113, b114⟩ := hq_add (y78) (1)
  rw [← ey110] at hk112 b113 b114
  have hk112 : (y109).toInt = (y78).toInt + (1 : Int) + k111 * 4294967296 := hk112
  obtain rfl : k111 = 0 := by omega
  refine hp_put hx hb hts hown hZ fx108 fp_X13_295 rfl rfl (Nat.le_of_ble_eq_true rfl) dX13_lay_27 (fun V115 _ _ e116 o117 hZ => ?_)
  have e116 : V115 (mo) = some (.inr (13, hm_o q (y109) (m_sz) (m_fr) (m_bh) (m_hd) (m_ft) (m_fa) (m_le) (m_fo) (m_as) (m_fd) (m_bc) (m_bg) (m_bs) (m_be) (m_b0) (m_b1) (m_cm) (m_hc))) := e116
  have hP := hP.put hmo e116 o117 (trivial) rfl
  have fx118 : V115 (q + 20) = some (.inl (cs 0, 4000, .inl (g104))) := (o117 (q + 20) (hq_tne (hr_20 hR) hmo (by simp))).trans (fx106)
  have hx119 : ((y98 : Int32).toInt8.toInt32).toInt = sp_fb v 0 := by rw [ey99, hx_n88, ey96]; rfl
  have hg120 := sp_add_g (w := (sp_add (sp_add (sp_add w (sp_fb v 24)) (sp_fb v 16)) (sp_fb v 8))) (by omega) hw90.2 (by omega) ge105
  rw [hx119] at hg120
  have hn123 : (sp_add (sp_add (sp_add (sp_add w (sp_fb v 24)) (sp_fb v 16)) (sp_fb v 8)) (sp_fb v 0)).2 = ((sp_add (sp_add (sp_add w (sp_fb v 24)) (sp_fb v 16)) (sp_fb v 8))).2 + 1 := rfl
  have hw121 := And.intro (show (y109).toInt = (sp_add (sp_add (sp_add (sp_add w (sp_fb v 24)) (sp_fb v 16)) (sp_fb v 8)) (sp_fb v 0)).2 by omega) hg120
  have hok122 := sp_okb_add hok91 (by omega) (sp_fb_rg v 0)
  have b124 := hok122.1
  refine lv_iinc (v := -8) (lv' := [(2, .int (-8)), (0, .ref (mo)), (1, .int (v))]) hx hb dX13_lay_30 hl (k := 0) rfl (by decide) (by decide) rfl (fun ls hl => ?_)
  refine lv_goto (tgt := 3) hx hb dX13_lay_33 (by decide) ?_
  refine lv_iload_n hx hb dX13_lay_3 rfl (lv_at hl 0 rfl) ?_
  refine lv_if_lt (tgt := 36) hx hb dX13_lay_4 (by decide) (fun c125 => ?_) (fun c125 => absurd (by decide) c125)
  exact hp_vret hx hb hr hlocks hZ ⟨rfl, hP, (fun x8 hne0 hne1 => (o117 x8 hne0).trans ((o103 x8 hne1).trans ((o86 x8 hne0).trans ((o72 x8 hne1).trans ((o55 x8 hne0).trans ((o41 x8 hne1).trans ((o24 x8 hne0).trans (o10 x8 hne1)))))))), y109, g104, e116, fx118, hw121.1, hw121.2⟩ dX13_lay_36

set_option maxHeartbeats 4000000 in
set_option maxRecDepth 100000 in
theorem y_feed (l : Launch) (D : va_G) (cs : Nat → ClassId) (B : Nat) (G : hq_G) (V : hp_V) (n : Nat) (hI : hq_I cs G V) (q : Nat) (mo : Nat) (w : sp_W) (m_tp : Int32) (m_sz : Int32) (m_fr : Int32) (m_bh : Int32) (m_hd : Int32) (m_ft : Int32) (m_fa : Int32) (m_le : Int32) (m_fo : Int32) (m_as : Int32) (m_fd : Int32) (m_bc : Int32) (m_bg : Int32) (m_bs : Int32) (m_be : Int32) (m_b0 : Int32) (m_b1 : Int32) (m_cm : Int32) (m_hc : Int32) (k1 : Int32) (k2 : Int32) (k3 : Int32) (k4 : Int32) (k5 : Int32) (tg : Nat → Int32) (hc0 : V (mo) = some (.inr (13, hm_o q (m_tp) (m_sz) (m_fr) (m_bh) (m_hd) (m_ft) (m_fa) (m_le) (m_fo) (m_as) (m_fd) (m_bc) (m_bg) (m_bs) (m_be) (m_b0) (m_b1) (m_cm) (m_hc)))) (hc1 : V (q + 20) = some (.inl (cs 0, 4000, .inl (tg)))) (hR : hq_RT G q) (hmo : G mo = some (24, 0, 0, 0)) (hmq : mo < q) (hok : sp_okb w) (hw : (m_tp.toInt = w.2 ∧ ∀ k : Nat, (k : Int) < w.2 → (tg k).toInt = w.1 k)) : hp_M l yX13_feed cX13_feed 6 (some .int) ({ frames := 2, cells := 0, slots := 0, locals := 43 }) D cs B V n [.ref (mo), .int (k1), .int (k2), .int (k3), .int (k4), .int (k5)] (hp_QI D cs B (fun r V' n' => n = n' ∧ hq_P cs G (fun _ => true) V V' ∧ (∀ x, x ≠ mo → x ≠ q + 20 → V' x = V x) ∧ (∃ m_tp1 : Int32, ∃ tg1 : Nat → Int32, V' (mo) = some (.inr (13, hm_o q (m_tp1) (m_sz) (m_fr) (m_bh) (m_hd) (m_ft) (m_fa) (m_le) (m_fo) (m_as) (m_fd) (m_bc) (m_bg) (m_bs) (m_be) (m_b0) (m_b1) (m_cm) (m_hc))) ∧ V' (q + 20) = some (.inl (cs 0, 4000, .inl (tg1))) ∧ ((w.2 ≤ 3980 ∧ m_tp1.toInt = (sp_feed w k1 k2 k3 k4 k5).2 ∧ (∀ x : Nat, (x : Int) < (sp_feed w k1 k2 k3 k4 k5).2 → (tg1 x).toInt = (sp_feed w k1 k2 k3 k4 k5).1 x) ∧ r.toInt = w.2 + 20) ∨ (¬ w.2 ≤ 3980 ∧ m_tp1 = m_tp ∧ tg1 = tg ∧ r.toInt = -3))))) 0 0 := by
  refine hp_walk (R0 := RX13) (by decide) rfl ?_ (Nat.le_of_ble_eq_true rfl)
  intro p e s m below meth c ls hx hb hr hts hown hlocks hin hml hZ hl
  have hP : hq_P cs G (fun _ => true) V V := hq_P.rf hI
  have hl : lv_has ls 6 [(0, .ref (mo)), (1, .int (k1)), (2, .int (k2)), (3, .int (k3)), (4, .int (k4)), (5, .int (k5))] := hl
  have hb_m_tp := hq_rng m_tp
  have hb_m_sz := hq_rng m_sz
  have hb_m_fr := hq_rng m_fr
  have hb_m_bh := hq_rng m_bh
  have hb_m_hd := hq_rng m_hd
  have hb_m_ft := hq_rng m_ft
  have hb_m_fa := hq_rng m_fa
  have hb_m_le := hq_rng m_le
  have hb_m_fo := hq_rng m_fo
  have hb_m_as := hq_rng m_as
  have hb_m_fd := hq_rng m_fd
  have hb_m_bc := hq_rng m_bc
  have hb_m_bg := hq_rng m_bg
  have hb_m_bs := hq_rng m_bs
  have hb_m_be := hq_rng m_be
  have hb_m_b0 := hq_rng m_b0
  have hb_m_b1 := hq_rng m_b1
  have hb_m_cm := hq_rng m_cm
  have hb_m_hc := hq_rng m_hc
  have hb_k1 := hq_rng k1
  have hb_k2 := hq_rng k2
  have hb_k3 := hq_rng k3
  have hb_k4 := hq_rng k4
  have hb_k5 := hq_rng k5
  have hw1 := hw.1
  have hk1 := hok.1
  refine lv_aload_n hx hb dX13_feed_0 rfl (lv_at hl 0 rfl) ?_
  refine hp_get (v := .int (m_tp)) hx hb hts hown hZ hc0 fl_X13_295 rfl dX13_feed_1 ?_
  refine lv_bipush (v := 20) hx hb dX13_feed_4 (by decide) ?_
  refine lv_iadd hx hb dX13_feed_6 ?_
  refine lv_topi (fun y1 ey2 => ?_)
  obtain ⟨k3, hk4, b5, b6⟩ := hq_add (m_tp) (20)
  rw [← ey2] at hk4 b5 b6
  have hk4 : (y1).toInt = (m_tp).toInt + (20 : Int) + k3 * 4294967296 := hk4
  obtain rfl : k3 = 0 := by omega
  refine lv_sipush (v := 4000) hx hb dX13_feed_7 (by decide) ?_
  refine lv_icmp_le (tgt := 16) hx hb dX13_feed_10 (by decide) (fun c7 => ?_) (fun c7 => ?_)
  · have c7 : (y1).toInt ≤ (4000 : Int) := hq_lei.mp c7
    refine lv_aload_n hx hb dX13_feed_16 rfl (lv_at hl 0 rfl) ?_
    refine lv_iload_n hx hb dX13_feed_17 rfl (lv_at hl 1 rfl) ?_
    refine hp_callv (hp_runV (As := [.int (k1)]) (rest := []) hx hb hml hown hts (y_lay l D cs B G V n hP.1 (q) (mo) (w) (m_tp) (m_sz) (m_fr) (m_bh) (m_hd) (m_ft) (m_fa) (m_le) (m_fo) (m_as) (m_fd) (m_bc) (m_bg) (m_bs) (m_be) (m_b0) (m_b1) (m_cm) (m_hc) (k1) (tg)  hc0 hc1  hR hmo hmq hok hw (by omega)) hZ hc0 cv_X13_298 rfl rfl ⟨Nat.le_of_ble_eq_true rfl, Nat.le_of_ble_eq_true rfl⟩ rfl hl.1 rfl (Nat.le_of_ble_eq_true rfl) dX13_feed_18 ⟨(Nat.le_of_ble_eq_true rfl), (Nat.le_of_ble_eq_true rfl)⟩) hZ (fun V8 n9 _ _ hw10 hZ => ?_)
    obtain ⟨rfl, hq12, fr13, z14, u15, ho16, ho17, hp18, hp19⟩ := hw10
    have b20 := hq_rng z14
    have hP := hP.trans hq12 (fun _ h => Bool.noConfusion h)
    have hf21 := hq_rg20 hP.1 (hr_20 hR) ho17
    have hn24 : (sp_addI w k1).2 = (w).2 + 4 := sp_addI_n _ _
    have hw22 := And.intro hp18 hp19
    have hok23 := sp_okb_addI (a := k1) hok (by omega)
    refine lv_aload_n hx hb dX13_feed_21 rfl (lv_at hl 0 rfl) ?_
    refine lv_iload_n hx hb dX13_feed_22 rfl (lv_at hl 2 rfl) ?_
    refine hp_callv (hp_runV (As := [.int (k2)]) (rest := []) hx hb hml hown hts (y_lay l D cs B G V8 n hP.1 (q) (mo) ((sp_addI w k1)) (z14) (m_sz) (m_fr) (m_bh) (m_hd) (m_ft) (m_fa) (m_le) (m_fo) (m_as) (m_fd) (m_bc) (m_bg) (m_bs) (m_be) (m_b0) (m_b1) (m_cm) (m_hc) (k2) (u15)  ho16 ho17  hR hmo hmq hok23 hw22 (by omega)) hZ ho16 cv_X13_298 rfl rfl ⟨Nat.le_of_ble_eq_true rfl, Nat.le_of_ble_eq_true rfl⟩ rfl hl.1 rfl (Nat.le_of_ble_eq_true rfl) dX13_feed_23 ⟨(Nat.le_of_ble_eq_true rfl), (Nat.le_of_ble_eq_true rfl)⟩) hZ (fun V25 n26 _ _ hw27 hZ => ?_)
    obtain ⟨rfl, hq29, fr30, z31, u32, ho33, ho34, hp35, hp36⟩ := hw27
    have b37 := hq_rng z31
    have hP := hP.trans hq29 (fun _ h => Bool.noConfusion h)
    have hf38 := hq_rg20 hP.1 (hr_20 hR) ho34
    have hn41 : (sp_addI (sp_addI w k1) k2).2 = ((sp_addI w k1)).2 + 4 := sp_addI_n _ _
    have hw39 := And.intro hp35 hp36
    have hok40 := sp_okb_addI (a := k2) hok23 (by omega)
    refine lv_aload_n hx hb dX13_feed_26 rfl (lv_at hl 0 rfl) ?_
    refine lv_iload_n hx hb dX13_feed_27 rfl (lv_at hl 3 rfl) ?_
    refine hp_callv (hp_runV (As := [.int (k3)]) (rest := []) hx hb hml hown hts (y_lay l D cs B G V25 n hP.1 (q) (mo) ((sp_addI (sp_addI w k1) k2)) (z31) (m_sz) (m_fr) (m_bh) (m_hd) (m_ft) (m_fa) (m_le) (m_fo) (m_as) (m_fd) (m_bc) (m_bg) (m_bs) (m_be) (m_b0) (m_b1) (m_cm) (m_hc) (k3) (u32)  ho33 ho34  hR hmo hmq hok40 hw39 (by omega)) hZ ho33 cv_X13_298 rfl rfl ⟨Nat.le_of_ble_eq_true rfl, Nat.le_of_ble_eq_true rfl⟩ rfl hl.1 rfl (Nat.le_of_ble_eq_true rfl) dX13_feed_28 ⟨(Nat.le_of_ble_eq_true rfl), (Nat.le_of_ble_eq_true rfl)⟩) hZ (fun V42 n43 _ _ hw44 hZ => ?_)
    obtain ⟨rfl, hq46, fr47, z48, u49, ho50, ho51, hp52, hp53⟩ := hw44
    have b54 := hq_rng z48
    have hP := hP.trans hq46 (fun _ h => Bool.noConfusion h)
    have hf55 := hq_rg20 hP.1 (hr_20 hR) ho51
    have hn58 : (sp_addI (sp_addI (sp_addI w k1) k2) k3).2 = ((sp_addI (sp_addI w k1) k2)).2 + 4 := sp_addI_n _ _
    have hw56 := And.intro hp52 hp53
    have hok57 := sp_okb_addI (a := k3) hok40 (by omega)
    refine lv_aload_n hx hb dX13_feed_31 rfl (lv_at hl 0 rfl) ?_
    refine lv_iload hx hb dX13_feed_32 (lv_at hl 4 rfl) ?_
    refine hp_callv (hp_runV (As := [.int (k4)]) (rest := []) hx hb hml hown hts (y_lay l D cs B G V42 n hP.1 (q) (mo) ((sp_addI (sp_addI (sp_addI w k1) k2) k3)) (z48) (m_sz) (m_fr) (m_bh) (m_hd) (m_ft) (m_fa) (m_le) (m_fo) (m_as) (m_fd) (m_bc) (m_bg) (m_bs) (m_be) (m_b0) (m_b1) (m_cm) (m_hc) (k4) (u49)  ho50 ho51  hR hmo hmq hok57 hw56 (by omega)) hZ ho50 cv_X13_298 rfl rfl ⟨Nat.le_of_ble_eq_true rfl, Nat.le_of_ble_eq_true rfl⟩ rfl hl.1 rfl (Nat.le_of_ble_eq_true rfl) dX13_feed_34 ⟨(Nat.le_of_ble_eq_true rfl), (Nat.le_of_ble_eq_true rfl)⟩) hZ (fun V59 n60 _ _ hw61 hZ => ?_)
    obtain ⟨rfl, hq63, fr64, z65, u66, ho67, ho68, hp69, hp70⟩ := hw61
    have b71 := hq_rng z65
    have hP := hP.trans hq63 (fun _ h => Bool.noConfusion h)
    have hf72 := hq_rg20 hP.1 (hr_20 hR) ho68
    have hn75 : (sp_addI (sp_addI (sp_addI (sp_addI w k1) k2) k3) k4).2 = ((sp_addI (sp_addI (sp_addI w k1) k2) k3)).2 + 4 := sp_addI_n _ _
    have hw73 := And.intro hp69 hp70
    have hok74 := sp_okb_addI (a := k4) hok57 (by omega)
    refine lv_aload_n hx hb dX13_feed_37 rfl (lv_at hl 0 rfl) ?_
    refine lv_iload hx hb dX13_feed_38 (lv_at hl 5 rfl) ?_
    refine hp_callv (hp_runV (As := [.int (k5)]) (rest := []) hx hb hml hown hts (y_lay l D cs B G V59 n hP.1 (q) (mo) ((sp_addI (sp_addI (sp_addI (sp_addI w k1) k2) k3) k4)) (z65) (m_sz) (m_fr) (m_bh) (m_hd) (m_ft) (m_fa) (m_le) (m_fo) (m_as) (m_fd) (m_bc) (m_bg) (m_bs) (m_be) (m_b0) (m_b1) (m_cm) (m_hc) (k5) (u66)  ho67 ho68  hR hmo hmq hok74 hw73 (by omega)) hZ ho67 cv_X13_298 rfl rfl ⟨Nat.le_of_ble_eq_true rfl, Nat.le_of_ble_eq_true rfl⟩ rfl hl.1 rfl (Nat.le_of_ble_eq_true rfl) dX13_feed_40 ⟨(Nat.le_of_ble_eq_true rfl), (Nat.le_of_ble_eq_true rfl)⟩) hZ (fun V76 n77 _ _ hw78 hZ => ?_)
    obtain ⟨rfl, hq80, fr81, z82, u83, ho84, ho85, hp86, hp87⟩ := hw78
    have b88 := hq_rng z82
    have hP := hP.trans hq80 (fun _ h => Bool.noConfusion h)
    have hf89 := hq_rg20 hP.1 (hr_20 hR) ho85
    have hn92 : (sp_addI (sp_addI (sp_addI (sp_addI (sp_addI w k1) k2) k3) k4) k5).2 = ((sp_addI (sp_addI (sp_addI (sp_addI w k1) k2) k3) k4)).2 + 4 := sp_addI_n _ _
    have hw90 := And.intro hp86 hp87
    have hok91 := sp_okb_addI (a := k5) hok74 (by omega)
    refine lv_aload_n hx hb dX13_feed_43 rfl (lv_at hl 0 rfl) ?_
    refine hp_get (v := .int (z82)) hx hb hts hown hZ ho84 fl_X13_295 rfl dX13_feed_44 ?_
    exact hp_iret hx hb hr hlocks hZ ⟨rfl, hP, (fun x8 hne0 hne1 => (fr81 x8 hne0 hne1).trans ((fr64 x8 hne0 hne1).trans ((fr47 x8 hne0 hne1).trans ((fr30 x8 hne0 hne1).trans (fr13 x8 hne0 hne1))))), z82, u83, ho84, ho85, Or.inl ⟨by omega, hw90.1, hw90.2, by omega⟩⟩ dX13_feed_47
  · have c7 : ¬ (y1).toInt ≤ (4000 : Int) := fun h9 => c7 (hq_lei.mpr h9)
    refine lv_bipush (v := -3) hx hb dX13_feed_13 (by decide) ?_
    have hl93 : (-3 : Int32).toInt = -3 := by decide
    have hl9 : (-3 : Int32).toInt = -3 := by decide
    exact hp_iret hx hb hr hlocks hZ ⟨rfl, hP, (fun x8 hne0 hne1 => rfl), m_tp, tg, hc0, hc1, Or.inr ⟨by omega, rfl, rfl, by omega⟩⟩ dX13_feed_15

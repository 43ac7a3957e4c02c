theorem hq_divp (x k : Int32) (h0 : 0 ≤ x.toInt) (hk : 0 < k.toInt) : (x / k).toInt = x.toInt / k.toInt := by
  have h1 := hq_rng x
  have h2 : 0 ≤ x.toInt / k.toInt := Int.ediv_nonneg h0 (Int.le_of_lt hk)
  have h3 : x.toInt / k.toInt ≤ x.toInt := Int.ediv_le_self _ h0
  rw [Int32.toInt_div, Int.tdiv_eq_ediv_of_nonneg h0, Int.bmod_def]
  omega
theorem hq_remp (x k : Int32) (h0 : 0 ≤ x.toInt) (hk : 0 < k.toInt) : (x - x / k * k).toInt = x.toInt % k.toInt := by
  have h1 := hq_rng x
  have h2 := hq_divp x k h0 hk
  have h3 : (x / k).toInt * k.toInt = x.toInt - x.toInt % k.toInt := by
    rw [h2, Int.mul_comm]
    have := Int.mul_ediv_add_emod x.toInt k.toInt
    omega
  have h4 := Int.emod_nonneg x.toInt (show k.toInt ≠ 0 by omega)
  have h5 := Int.emod_lt_of_pos x.toInt hk
  have h7 := Int.mul_ediv_add_emod x.toInt k.toInt
  have h8 : 0 ≤ k.toInt * (x.toInt / k.toInt) := Int.mul_nonneg (Int.le_of_lt hk) (Int.ediv_nonneg h0 (Int.le_of_lt hk))
  have h6 : x.toInt % k.toInt ≤ x.toInt := by omega
  rw [Int32.toInt_sub, Int32.toInt_mul, h3, Int.bmod_def, Int.bmod_def]
  omega
set_option maxHeartbeats 4000000 in
set_option maxRecDepth 100000 in
theorem t_X11_verbOf (l : Launch) (D : va_G) (cs : Nat → ClassId) (B : Nat) (G : hq_G) (V : hp_V) (n : Nat) (hI : hq_I cs G V) (k : Int32) (hk0 : 0 ≤ k.toInt) (hk1 : k.toInt < 900) : hp_M l yX11_verbOf cX11_verbOf 1 (some .int) ({ frames := 1, cells := 0, slots := 0, locals := 21 }) D cs B V n [.int (k)] (hp_QI D cs B (fun r V' n' => n = n' ∧ hq_P cs G (fun _ => false) V V' ∧ (0 ≤ r.toInt ∧ r.toInt < 30))) 0 0 := by
  refine hp_walk (R0 := RX11) (by decide) rfl ?_ (Nat.le_of_ble_eq_true rfl)
  intro p e s m below meth c ls hx hb hr hts hown hlocks hin hml hZ hl
  have hP : hq_P cs G (fun _ => false) V V := hq_P.rf hI
  have hl : lv_has ls 1 [(0, .int (k))] := hl
  have hb_k := hq_rng k
  refine lv_iload_n hx hb dX11_verbOf_0 rfl (lv_at hl 0 rfl) ?_
  refine lv_bipush (v := 30) hx hb dX11_verbOf_1 (by decide) ?_
  refine lv_idiv hx hb dX11_verbOf_3 (by decide) ?_
  refine lv_topi (fun y1 ey2 => ?_)
  have b3 : (y1).toInt = (k).toInt / 30 := by rw [ey2]; exact hq_divp k 30 (by omega) (by decide)
  exact hp_iret hx hb hr hlocks hZ ⟨rfl, hP, (by constructor <;> omega)⟩ dX11_verbOf_4

set_option maxHeartbeats 4000000 in
set_option maxRecDepth 100000 in
theorem t_X11_tenseOf (l : Launch) (D : va_G) (cs : Nat → ClassId) (B : Nat) (G : hq_G) (V : hp_V) (n : Nat) (hI : hq_I cs G V) (k : Int32) (hk0 : 0 ≤ k.toInt) (hk1 : k.toInt < 900) : hp_M l yX11_tenseOf cX11_tenseOf 1 (some .int) ({ frames := 1, cells := 0, slots := 0, locals := 21 }) D cs B V n [.int (k)] (hp_QI D cs B (fun r V' n' => n = n' ∧ hq_P cs G (fun _ => false) V V' ∧ True)) 0 0 := by
  refine hp_walk (R0 := RX11) (by decide) rfl ?_ (Nat.le_of_ble_eq_true rfl)
  intro p e s m below meth c ls hx hb hr hts hown hlocks hin hml hZ hl
  have hP : hq_P cs G (fun _ => false) V V := hq_P.rf hI
  have hl : lv_has ls 1 [(0, .int (k))] := hl
  have hb_k := hq_rng k
  refine lv_iload_n hx hb dX11_tenseOf_0 rfl (lv_at hl 0 rfl) ?_
  refine lv_bipush (v := 30) hx hb dX11_tenseOf_1 (by decide) ?_
  refine lv_irem hx hb dX11_tenseOf_3 (by decide) ?_
  refine lv_topi (fun y1 ey2 => ?_)
  have b3 : (y1).toInt = (k).toInt % 30 := by rw [ey2]; exact hq_remp k 30 (by omega) (by decide)
  refine lv_bipush (v := 6) hx hb dX11_tenseOf_4 (by decide) ?_
  refine lv_idiv hx hb dX11_tenseOf_6 (by decide) ?_
  refine lv_topi (fun y4 ey5 => ?_)
  have b6 : (y4).toInt = (y1).toInt / 6 := by rw [ey5]; exact hq_divp y1 6 (by omega) (by decide)
  exact hp_iret hx hb hr hlocks hZ ⟨rfl, hP, trivial⟩ dX11_tenseOf_7

set_option maxHeartbeats 4000000 in
set_option maxRecDepth 100000 in
theorem t_X11_personOf (l : Launch) (D : va_G) (cs : Nat → ClassId) (B : Nat) (G : hq_G) (V : hp_V) (n : Nat) (hI : hq_I cs G V) (k : Int32) (hk0 : 0 ≤ k.toInt) (hk1 : k.toInt < 900) : hp_M l yX11_personOf cX11_personOf 1 (some .int) ({ frames := 1, cells := 0, slots := 0, locals := 21 }) D cs B V n [.int (k)] (hp_QI D cs B (fun r V' n' => n = n' ∧ hq_P cs G (fun _ => false) V V' ∧ True)) 0 0 := by
  refine hp_walk (R0 := RX11) (by decide) rfl ?_ (Nat.le_of_ble_eq_true rfl)
  intro p e s m below meth c ls hx hb hr hts hown hlocks hin hml hZ hl
  have hP : hq_P cs G (fun _ => false) V V := hq_P.rf hI
  have hl : lv_has ls 1 [(0, .int (k))] := hl
  have hb_k := hq_rng k
  refine lv_iload_n hx hb dX11_personOf_0 rfl (lv_at hl 0 rfl) ?_
  refine lv_bipush (v := 6) hx hb dX11_personOf_1 (by decide) ?_
  refine lv_irem hx hb dX11_personOf_3 (by decide) ?_
  refine lv_topi (fun y1 ey2 => ?_)
  have b3 : (y1).toInt = (k).toInt % 6 := by rw [ey2]; exact hq_remp k 6 (by omega) (by decide)
  exact hp_iret hx hb hr hlocks hZ ⟨rfl, hP, trivial⟩ dX11_personOf_4

set_option maxHeartbeats 4000000 in
set_option maxRecDepth 100000 in
theorem t_X11_isLearner (l : Launch) (D : va_G) (cs : Nat → ClassId) (B : Nat) (G : hq_G) (V : hp_V) (n : Nat) (hI : hq_I cs G V) (k : Int32) : hp_M l yX11_isLearner cX11_isLearner 1 (some .boolean) ({ frames := 1, cells := 0, slots := 0, locals := 21 }) D cs B V n [.int (k)] (hp_QI D cs B (fun r V' n' => n = n' ∧ hq_P cs G (fun _ => false) V V' ∧ (r.toInt = 0 ∨ (r.toInt = 1 ∧ 0 ≤ k.toInt ∧ k.toInt < 8)))) 0 0 := by
  refine hp_walk (R0 := RX11) (by decide) rfl ?_ (Nat.le_of_ble_eq_true rfl)
  intro p e s m below meth c ls hx hb hr hts hown hlocks hin hml hZ hl
  have hP : hq_P cs G (fun _ => false) V V := hq_P.rf hI
  have hl : lv_has ls 1 [(0, .int (k))] := hl
  have hb_k := hq_rng k
  refine lv_iload_n hx hb dX11_isLearner_0 rfl (lv_at hl 0 rfl) ?_
  refine lv_if_lt (tgt := 14) hx hb dX11_isLearner_1 (by decide) (fun c1 => ?_) (fun c1 => ?_)
  · have c1 : (k).toInt < (0 : Int) := hq_lti.mp c1
    refine lv_iconst (v := 0) hx hb dX11_isLearner_14 (by decide) ?_
    exact hp_zret hx hb hr rfl hlocks hZ ⟨rfl, hP, (Or.inl (by decide))⟩ dX11_isLearner_15
  · have c1 : ¬ (k).toInt < (0 : Int) := fun h9 => c1 (hq_lti.mpr h9)
    refine lv_iload_n hx hb dX11_isLearner_4 rfl (lv_at hl 0 rfl) ?_
    refine lv_bipush (v := 8) hx hb dX11_isLearner_5 (by decide) ?_
    refine lv_icmp_ge (tgt := 14) hx hb dX11_isLearner_7 (by decide) (fun c2 => ?_) (fun c2 => ?_)
    · have c2 : (8 : Int) ≤ (k).toInt := hq_lei.mp c2
      refine lv_iconst (v := 0) hx hb dX11_isLearner_14 (by decide) ?_
      exact hp_zret hx hb hr rfl hlocks hZ ⟨rfl, hP, (Or.inl (by decide))⟩ dX11_isLearner_15
    · have c2 : ¬ (8 : Int) ≤ (k).toInt := fun h9 => c2 (hq_lei.mpr h9)
      refine lv_iconst (v := 1) hx hb dX11_isLearner_10 (by decide) ?_
      refine lv_goto (tgt := 15) hx hb dX11_isLearner_11 (by decide) ?_
      exact hp_zret hx hb hr rfl hlocks hZ ⟨rfl, hP, (Or.inr ⟨by decide, by omega, by omega⟩)⟩ dX11_isLearner_15

set_option maxHeartbeats 4000000 in
set_option maxRecDepth 100000 in
theorem t_X8_look (l : Launch) (D : va_G) (cs : Nat → ClassId) (B : Nat) (G : hq_G) (V : hp_V) (n : Nat) (hI : hq_I cs G V) (b : Nat) (t : Nat) (h_t : G t = some (12, 0, 0, 0)) (u : Nat) (h_u : G u = some (6, b, 0, 0)) (mk : Nat) (h_mk : G mk = some (11, 0, 0, 0)) (hJ : hq_J cs V u) : hp_M l yX8_look cX8_look 4 none ({ frames := 7, cells := 0, slots := 0, locals := 177 }) D cs B V n [.ref (t), .ref (u), .ref (mk)] (hp_QV D cs B (fun V' n' => n = n' ∧ hq_P cs G (fun g => g.1 == 0 || g.1 == 5 || g.1 == 6 || g.1 == 7) V V')) 0 0 := by
  refine hp_walk (R0 := RX8) (by decide) rfl ?_ (Nat.le_of_ble_eq_true rfl)
  intro p e s m below meth c ls hx hb hr hts hown hlocks hin hml hZ hl
  have hP : hq_P cs G (fun g => g.1 == 0 || g.1 == 5 || g.1 == 6 || g.1 == 7) V V := hq_P.rf hI
  have hl : lv_has ls 4 [(0, .ref (t)), (1, .ref (u)), (2, .ref (mk))] := hl
  refine lv_aload_n hx hb dX8_look_0 rfl (lv_at hl 0 rfl) ?_
  obtain ⟨z2, u3, u4, u5, eV1, hu6, hu7, hu8⟩ := hq_o12 hP.1 h_t
  refine hp_get (v := .int (z2)) hx hb hts hown hZ eV1 fl_X8_21 rfl dX8_look_1 ?_
  refine lv_if_eq (tgt := 8) hx hb dX8_look_4 (by decide) (fun c9 => ?_) (fun c9 => ?_)
  · have c9 : (z2).toInt = (0 : Int) := hq_eqi.mp c9
    refine lv_iconst (v := 0) hx hb dX8_look_8 (by decide) ?_
    refine lv_istore_n (lv' := [(3, .int (0)), (0, .ref (t)), (1, .ref (u)), (2, .ref (mk))]) hx hb dX8_look_9 rfl hl (by decide) rfl (fun ls hl => ?_)
    have hl10 : (0 : Int32).toInt = 0 := by decide
    suffices lp10 : ∀ (k9 : Nat) (V9 : hp_V) (H9 : Heap) (locs9 : List Loc) (ls : Array Slot) (i : Int32), (1000 - i.toInt).toNat = k9 → hp_Z D cs B s V9 H9 n locs9 → hq_P cs G (fun g => g.1 == 0 || g.1 == 5 || g.1 == 6 || g.1 == 7) V V9 → 0 ≤ i.toInt → i.toInt ≤ 900 → lv_has ls 4 [(3, .int (i)), (0, .ref (t)), (1, .ref (u)), (2, .ref (mk))] → W p l e ({ frames := 7, cells := 0, slots := 0, locals := 177 }) s m ([.ref (t), .ref (u), .ref (mk)] : List Value).toArray below meth c H9 locs9 0 0 (MQ below (hp_QV D cs B (fun V' n' => n = n' ∧ hq_P cs G (fun g => g.1 == 0 || g.1 == 5 || g.1 == 6 || g.1 == 7) V V')) ([.ref (t), .ref (u), .ref (mk)] : List Value).toArray s 0 0 (hp_F B)) (F0 m 10 ls []) from lp10 _ _ _ _ ls (0) rfl hZ hP (by omega) (by omega) (lv_sub hl [0, 1, 2, 3] rfl)
    intro k9
    induction k9 using Nat.strongRecOn with
    | _ k9 ih10 =>
      intro V9 H9 locs9 ls i  hk10 hZ hP  hv11 hv12 hl
      have hb_i := hq_rng i
      have hP_10 := hP
      refine lv_iload_n hx hb dX8_look_10 rfl (lv_at hl 0 rfl) ?_
      refine lv_aload_n hx hb dX8_look_11 rfl (lv_at hl 2 rfl) ?_
      obtain ⟨u20, u21, u22, u23, z24, z25, z26, eV19, hu27, hu28, hu29, hu30, ⟨h31, h32⟩, ⟨h33, h34⟩, h35, h36⟩ := hq_o6 hP.1 h_u
      refine hp_calli (hp_runV (As := []) (rest := [.int (i)]) hx hb hml hown hts (t_X0_placeSize l D cs B G  V9 n hP.1 _ (u) h_u ) hZ eV19 cv_X8_25 rfl rfl ⟨Nat.le_of_ble_eq_true rfl, Nat.le_of_ble_eq_true rfl⟩ rfl hl.1 rfl (Nat.le_of_ble_eq_true rfl) dX8_look_12 ⟨(Nat.le_of_ble_eq_true rfl), (Nat.le_of_ble_eq_true rfl)⟩) hZ (fun r16 V13 n14 _ _ hw15 hZ => ?_)
      obtain ⟨rfl, hq17, hr18⟩ := hw15
      have hP := hP.trans hq17 (fun _ _ => rfl)
      have b37 := hq_rng r16
      refine lv_icmp_ge (tgt := 50) hx hb dX8_look_15 (by decide) (fun c38 => ?_) (fun c38 => ?_)
      · have c38 : (r16).toInt ≤ (i).toInt := hq_lei.mp c38
        refine lv_aload_n hx hb dX8_look_50 rfl (lv_at hl 1 rfl) ?_
        refine lv_iconst (v := 1) hx hb dX8_look_51 (by decide) ?_
        obtain ⟨z40, u41, u42, u43, eV39, hu44, hu45, hu46⟩ := hq_o12 hP.1 h_t
        refine hp_put hx hb hts hown hZ eV39 fp_X8_21 rfl rfl (Nat.le_of_ble_eq_true rfl) dX8_look_52 (fun V47 _ _ e48 o49 hZ => ?_)
        have e48 : V47 (t) = some (.inr (8, [.int (1), .ref (u41), .ref (u42), .ref (u43)])) := e48
        have hP := hP.put h_t e48 o49 (hq_c12 hu44 hu45 hu46) rfl
        exact hp_vret hx hb hr hlocks hZ ⟨rfl, hP⟩ dX8_look_55
      · have c38 : ¬ (r16).toInt ≤ (i).toInt := fun h9 => c38 (hq_lei.mpr h9)
        refine lv_aload_n hx hb dX8_look_18 rfl (lv_at hl 3 rfl) ?_
        refine lv_aload_n hx hb dX8_look_19 rfl (lv_at hl 2 rfl) ?_
        refine lv_iload_n hx hb dX8_look_20 rfl (lv_at hl 0 rfl) ?_
        refine hp_calli (hp_runSN (As := [.int (i)]) (rest := [.ref (u), .ref (mk)]) hx hb hml hown hts (t_X11_verbOf l D cs B G  V13 n hP.1  (i) (by omega) (by omega)) hZ cv_X8_31 rfl rfl ⟨Nat.le_of_ble_eq_true rfl, Nat.le_of_ble_eq_true rfl⟩ rfl hl.1 rfl (Nat.le_of_ble_eq_true rfl) dX8_look_21 ⟨(Nat.le_of_ble_eq_true rfl), (Nat.le_of_ble_eq_true rfl)⟩) hZ (fun r53 V50 n51 _ _ hw52 hZ => ?_)
        obtain ⟨rfl, hq54, hr55⟩ := hw52
        have hP := hP.trans hq54 (fun _ _ => rfl)
        have b56 := hq_rng r53
        refine lv_iload_n hx hb dX8_look_24 rfl (lv_at hl 0 rfl) ?_
        refine hp_calli (hp_runSN (As := [.int (i)]) (rest := [.int (r53), .ref (u), .ref (mk)]) hx hb hml hown hts (t_X11_tenseOf l D cs B G  V50 n hP.1  (i) (by omega) (by omega)) hZ cv_X8_35 rfl rfl ⟨Nat.le_of_ble_eq_true rfl, Nat.le_of_ble_eq_true rfl⟩ rfl hl.1 rfl (Nat.le_of_ble_eq_true rfl) dX8_look_25 ⟨(Nat.le_of_ble_eq_true rfl), (Nat.le_of_ble_eq_true rfl)⟩) hZ (fun r60 V57 n58 _ _ hw59 hZ => ?_)
        obtain ⟨rfl, hq61, hr62⟩ := hw59
        have hP := hP.trans hq61 (fun _ _ => rfl)
        have b63 := hq_rng r60
        refine lv_iload_n hx hb dX8_look_28 rfl (lv_at hl 0 rfl) ?_
        refine hp_calli (hp_runSN (As := [.int (i)]) (rest := [.int (r60), .int (r53), .ref (u), .ref (mk)]) hx hb hml hown hts (t_X11_personOf l D cs B G  V57 n hP.1  (i) (by omega) (by omega)) hZ cv_X8_38 rfl rfl ⟨Nat.le_of_ble_eq_true rfl, Nat.le_of_ble_eq_true rfl⟩ rfl hl.1 rfl (Nat.le_of_ble_eq_true rfl) dX8_look_29 ⟨(Nat.le_of_ble_eq_true rfl), (Nat.le_of_ble_eq_true rfl)⟩) hZ (fun r67 V64 n65 _ _ hw66 hZ => ?_)
        obtain ⟨rfl, hq68, hr69⟩ := hw66
        have hP := hP.trans hq68 (fun _ _ => rfl)
        have b70 := hq_rng r67
        obtain ⟨u78, u79, u80, u81, z82, eV77, hu83, hu84, hu85, hu86, h87, h88⟩ := hq_o11 hP.1 h_mk
        refine hp_callv (hp_runV (As := [.ref (u), .int (r53), .int (r60), .int (r67)]) (rest := []) hx hb hml hown hts (t_X6_makeAt l D cs B G  V64 n hP.1 _ (mk) h_mk (u) h_u (r53) (r60) (r67) (by omega) (by omega) (hJ.keep hP.1 h_u (hq_kp hP (by intro g h; simp [hq_lg] at h ⊢ <;> omega)))) hZ eV77 cv_X8_41 rfl rfl ⟨Nat.le_of_ble_eq_true rfl, Nat.le_of_ble_eq_true rfl⟩ rfl hl.1 rfl (Nat.le_of_ble_eq_true rfl) dX8_look_32 ⟨(Nat.le_of_ble_eq_true rfl), (Nat.le_of_ble_eq_true rfl)⟩) hZ (fun V71 n72 _ _ hw73 hZ => ?_)
        obtain ⟨rfl, hq75⟩ := hw73
        have hP := hP.trans hq75 (by intro g h; simp_all)
        refine lv_aload_n hx hb dX8_look_35 rfl (lv_at hl 1 rfl) ?_
        refine lv_iload_n hx hb dX8_look_36 rfl (lv_at hl 0 rfl) ?_
        refine lv_aload_n hx hb dX8_look_37 rfl (lv_at hl 3 rfl) ?_
        obtain ⟨u90, u91, u92, u93, z94, eV89, hu95, hu96, hu97, hu98, h99, h100⟩ := hq_o11 hP.1 h_mk
        refine hp_get (v := .ref (u90)) hx hb hts hown hZ eV89 fl_X8_47 rfl dX8_look_38 ?_
        obtain ⟨z108, u109, u110, u111, eV107, hu112, hu113, hu114⟩ := hq_o12 hP.1 h_t
        refine hp_callv (hp_runV (As := [.int (i), .ref (u90)]) (rest := []) hx hb hml hown hts (t_X8_note l D cs B G  V71 n hP.1 _ (t) h_t (i) (u90) hu95 (by omega) (by omega)) hZ eV107 cv_X8_51 rfl rfl ⟨Nat.le_of_ble_eq_true rfl, Nat.le_of_ble_eq_true rfl⟩ rfl hl.1 rfl (Nat.le_of_ble_eq_true rfl) dX8_look_41 ⟨(Nat.le_of_ble_eq_true rfl), (Nat.le_of_ble_eq_true rfl)⟩) hZ (fun V101 n102 _ _ hw103 hZ => ?_)
        obtain ⟨rfl, hq105⟩ := hw103
        have hP := hP.trans hq105 (by intro g h; simp_all)
        obtain ⟨y115, ey116⟩ : ∃ y : Int32, y = i + (1) := ⟨_, rfl⟩
        obtain ⟨k117, hk118, b119, b120⟩ := hq_add (i) (1)
        rw [← ey116] at hk118 b119 b120
        have hk118 : (y115).toInt = (i).toInt + (1) + k117 * 4294967296 := hk118
        refine lv_iinc (v := y115) (lv' := [(3, .int (y115)), (0, .ref (t)), (1, .ref (u)), (2, .ref (mk))]) hx hb dX8_look_44 hl (k := 0) rfl (by rw [ey116]; rfl) (by decide) rfl (fun ls hl => ?_)
        refine lv_goto (tgt := 10) hx hb dX8_look_47 (by decide) ?_
        exact ih10 _ (by omega) _ _ _ ls (y115) rfl hZ hP (by omega) (by omega) (lv_sub hl [0, 1, 2, 3] rfl)
  · have c9 : ¬ (z2).toInt = (0 : Int) := fun h9 => c9 (hq_eqi.mpr h9)
    exact hp_vret hx hb hr hlocks hZ ⟨rfl, hP⟩ dX8_look_7

set_option maxHeartbeats 4000000 in
set_option maxRecDepth 100000 in
theorem t_X1_forget (l : Launch) (D : va_G) (cs : Nat → ClassId) (B : Nat) (G : hq_G) (V : hp_V) (n : Nat) (hI : hq_I cs G V) (t : Nat) (h_t : G t = some (14, 0, 0, 0)) {e_be e_tr e_st e_en e_wo e_ki e_mi e_ta : Nat} {e_fd e_sz : Int32} {e_bk e_an e_mk : Value} (ho_t : V t = some (.inr (1, [.ref (e_be), .ref (e_tr), .int (e_fd), .ref (e_st), .ref (e_en), .ref (e_wo), e_bk, e_an, e_mk, .int (e_sz), .ref (e_ki), .ref (e_mi), .ref (e_ta)]))) (h_e_be : G e_be = some (13, 0, 0, 0)) (h_e_tr : G e_tr = some (13, 0, 0, 0)) (h_e_st : G e_st = some (0, 30, 0, 0)) (h_e_en : G e_en = some (0, 30, 0, 0)) (h_e_wo : G e_wo = some (0, 30, 0, 0)) (h_e_ki : G e_ki = some (2, 8, 2, 0)) (h_e_mi : G e_mi = some (2, 8, 2, 0)) (h_e_ta : G e_ta = some (2, 8, 2, 0)) (hi_t0 : 0 ≤ e_fd.toInt ∧ e_fd.toInt ≤ 1) (hi_t1 : 0 ≤ e_sz.toInt ∧ e_sz.toInt ≤ 2) : hp_M l yX1_forget cX1_forget 1 none ({ frames := 1, cells := 0, slots := 0, locals := 21 }) D cs B V n [.ref (t)] (hp_QV D cs B (fun V' n' => n = n' ∧ hq_P cs G (fun g => g.1 == 8) V V' ∧ (∃ (e_sz1 : Int32), V' t = some (.inr (1, [.ref (e_be), .ref (e_tr), .int (e_fd), .ref (e_st), .ref (e_en), .ref (e_wo), e_bk, e_an, e_mk, .int (e_sz1), .ref (e_ki), .ref (e_mi), .ref (e_ta)])) ∧ (0 ≤ e_sz1.toInt ∧ e_sz1.toInt ≤ 2) ∧ (e_sz1.toInt = 0)))) 0 0 := by
  refine hp_walk (R0 := RX1) (by decide) rfl ?_ (Nat.le_of_ble_eq_true rfl)
  intro p e s m below meth c ls hx hb hr hts hown hlocks hin hml hZ hl
  have hP : hq_P cs G (fun g => g.1 == 8) V V := hq_P.rf hI
  have hl : lv_has ls 1 [(0, .ref (t))] := hl
  have hb_e_fd := hq_rng e_fd
  have hb_e_sz := hq_rng e_sz
  refine lv_aload_n hx hb dX1_forget_0 rfl (lv_at hl 0 rfl) ?_
  refine lv_iconst (v := 0) hx hb dX1_forget_1 (by decide) ?_
  refine hp_put hx hb hts hown hZ ho_t fp_X1_46 rfl rfl (Nat.le_of_ble_eq_true rfl) dX1_forget_2 (fun V1 _ _ e2 o3 hZ => ?_)
  have e2 : V1 (t) = some (.inr (1, [.ref (e_be), .ref (e_tr), .int (e_fd), .ref (e_st), .ref (e_en), .ref (e_wo), e_bk, e_an, e_mk, .int (0), .ref (e_ki), .ref (e_mi), .ref (e_ta)])) := e2
  have hP := hP.put h_t e2 o3 (trivial) rfl
  have hl4 : (0 : Int32).toInt = 0 := by decide
  exact hp_vret hx hb hr hlocks hZ ⟨rfl, hP, ⟨0, e2, by omega, by omega⟩⟩ dX1_forget_5

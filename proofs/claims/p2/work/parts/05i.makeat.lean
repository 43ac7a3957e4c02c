set_option maxHeartbeats 4000000 in
set_option maxRecDepth 100000 in
theorem t_X6_join_rr (l : Launch) (D : va_G) (cs : Nat → ClassId) (B : Nat) (G : hq_G) (V : hp_V) (n : Nat) (hI : hq_I cs G V) (t : Nat) (h_t : G t = some (11, 0, 0, 0)) (k : Int32) (f1 : Nat) (h_f1 : G f1 = some (7, 0, 0, 0)) (f2 : Nat) (h_f2 : G f2 = some (7, 0, 0, 0)) : hp_M l yX6_join cX6_join 5 none ({ frames := 4, cells := 0, slots := 0, locals := 92 }) D cs B V n [.ref (t), .int (k), .ref (f1), .ref (f2)] (hp_QV D cs B (fun V' n' => n = n' ∧ hq_P cs G (fun g => g == 5 || g == 6 || g == 7) V V')) 0 0 := by
  refine hp_walk (R0 := RX6) (by decide) rfl ?_ (Nat.le_of_ble_eq_true rfl)
  intro p e s m below meth c ls hx hb hr hts hown hlocks hin hml hZ hl
  have hP : hq_P cs G (fun g => g == 5 || g == 6 || g == 7) V V := hq_P.rf hI
  have hl : lv_has ls 5 [(0, .ref (t)), (1, .int (k)), (2, .ref (f1)), (3, .ref (f2))] := hl
  have hb_k := hq_rng k
  refine lv_aload_n hx hb dX6_join_0 rfl (lv_at hl 0 rfl) ?_
  obtain ⟨u2, u3, u4, u5, z6, eV1, hu7, hu8, hu9, hu10, h11, h12⟩ := hq_o11 hP.1 h_t
  refine hp_get (v := .ref (u2)) hx hb hts hown hZ eV1 fl_X6_14 rfl dX6_join_1 ?_
  obtain ⟨u20, z21, eV19, hu22, h23, h24, h25⟩ := hq_o8 hP.1 hu7
  refine hp_callq (hp_runV (As := []) (rest := []) hx hb hml hown hts (t_X3_open l D cs B G  V n hP.1 4 (u2) hu7 ) hZ eV19 cv_X6_73 rfl rfl ⟨Nat.le_of_ble_eq_true rfl, Nat.le_of_ble_eq_true rfl⟩ rfl hl.1 rfl (Nat.le_of_ble_eq_true rfl) dX6_join_4 ⟨(Nat.le_of_ble_eq_true rfl), (Nat.le_of_ble_eq_true rfl)⟩) hZ (fun r16 V13 n14 _ _ hw15 hZ => ?_)
  obtain ⟨rfl, hq17, hr18⟩ := hw15
  have hP := hP.trans hq17 (by intro g h; simp_all)
  rcases r16 with _ | u26
  · refine W.eq (g2 := F0 m 7 ls [.null]) rfl ?_
    refine lv_astoreN (lv' := [(4, .null), (0, .ref (t)), (1, .int (k)), (2, .ref (f1)), (3, .ref (f2))]) hx hb dX6_join_7 hl (by decide) rfl (fun ls hl => ?_)
    refine lv_aloadN hx hb dX6_join_9 (lv_at hl 0 rfl) ?_
    refine lv_ifnullN (tgt := 22) hx hb dX6_join_11 (by decide) ?_
    exact hp_vret hx hb hr hlocks hZ ⟨rfl, hP⟩ dX6_join_22
  · refine W.eq (g2 := F0 m 7 ls [.ref (u26)]) rfl ?_
    have hu27 := hr18 u26 rfl
    refine lv_astore (lv' := [(4, .ref (u26)), (0, .ref (t)), (1, .int (k)), (2, .ref (f1)), (3, .ref (f2))]) hx hb dX6_join_7 hl (by decide) rfl (fun ls hl => ?_)
    refine lv_aload hx hb dX6_join_9 (lv_at hl 0 rfl) ?_
    refine lv_ifnull hx hb dX6_join_11 ?_
    refine lv_aload_n hx hb dX6_join_14 rfl (lv_at hl 3 rfl) ?_
    refine lv_ifnull hx hb dX6_join_15 ?_
    refine lv_aload_n hx hb dX6_join_18 rfl (lv_at hl 4 rfl) ?_
    refine lv_ifnonnull (tgt := 23) hx hb dX6_join_19 (by decide) ?_
    refine lv_aload hx hb dX6_join_23 (lv_at hl 0 rfl) ?_
    refine lv_iload_n hx hb dX6_join_25 rfl (lv_at hl 2 rfl) ?_
    obtain ⟨u35, u36, z37, eV34, hu38, hu39, h40, h41⟩ := hq_o7 hP.1 hu27
    refine hp_callv (hp_runV (As := [.int (k)]) (rest := []) hx hb hml hown hts (t_X2_addLine l D cs B G  V13 n hP.1  (u26) hu27 (k) ) hZ eV34 cv_X6_77 rfl rfl ⟨Nat.le_of_ble_eq_true rfl, Nat.le_of_ble_eq_true rfl⟩ rfl hl.1 rfl (Nat.le_of_ble_eq_true rfl) dX6_join_26 ⟨(Nat.le_of_ble_eq_true rfl), (Nat.le_of_ble_eq_true rfl)⟩) hZ (fun V28 n29 _ _ hw30 hZ => ?_)
    obtain ⟨rfl, hq32⟩ := hw30
    have hP := hP.trans hq32 (by intro g h; simp_all)
    refine lv_aload hx hb dX6_join_29 (lv_at hl 0 rfl) ?_
    refine lv_aload_n hx hb dX6_join_31 rfl (lv_at hl 3 rfl) ?_
    obtain ⟨u49, u50, z51, eV48, hu52, hu53, h54, h55⟩ := hq_o7 hP.1 hu27
    refine hp_callv (hp_runV (As := [.ref (f1)]) (rest := []) hx hb hml hown hts (t_X2_addRow l D cs B G  V28 n hP.1  (u26) hu27 (f1) h_f1 ) hZ eV48 cv_X6_82 rfl rfl ⟨Nat.le_of_ble_eq_true rfl, Nat.le_of_ble_eq_true rfl⟩ rfl hl.1 rfl (Nat.le_of_ble_eq_true rfl) dX6_join_32 ⟨(Nat.le_of_ble_eq_true rfl), (Nat.le_of_ble_eq_true rfl)⟩) hZ (fun V42 n43 _ _ hw44 hZ => ?_)
    obtain ⟨rfl, hq46⟩ := hw44
    have hP := hP.trans hq46 (by intro g h; simp_all)
    refine lv_aload hx hb dX6_join_35 (lv_at hl 0 rfl) ?_
    refine lv_aload_n hx hb dX6_join_37 rfl (lv_at hl 4 rfl) ?_
    obtain ⟨u63, u64, z65, eV62, hu66, hu67, h68, h69⟩ := hq_o7 hP.1 hu27
    refine hp_callv (hp_runV (As := [.ref (f2)]) (rest := []) hx hb hml hown hts (t_X2_addRow l D cs B G  V42 n hP.1  (u26) hu27 (f2) h_f2 ) hZ eV62 cv_X6_82 rfl rfl ⟨Nat.le_of_ble_eq_true rfl, Nat.le_of_ble_eq_true rfl⟩ rfl hl.1 rfl (Nat.le_of_ble_eq_true rfl) dX6_join_38 ⟨(Nat.le_of_ble_eq_true rfl), (Nat.le_of_ble_eq_true rfl)⟩) hZ (fun V56 n57 _ _ hw58 hZ => ?_)
    obtain ⟨rfl, hq60⟩ := hw58
    have hP := hP.trans hq60 (by intro g h; simp_all)
    refine lv_aload hx hb dX6_join_41 (lv_at hl 0 rfl) ?_
    obtain ⟨u71, u72, z73, eV70, hu74, hu75, h76, h77⟩ := hq_o7 hP.1 hu27
    refine hp_get (v := .ref (u71)) hx hb hts hown hZ eV70 fl_X6_86 rfl dX6_join_43 ?_
    refine lv_aload_n hx hb dX6_join_46 rfl (lv_at hl 3 rfl) ?_
    obtain ⟨u79, u80, z81, eV78, hu82, hu83, h84, h85⟩ := hq_o7 hP.1 h_f1
    refine hp_get (v := .ref (u79)) hx hb hts hown hZ eV78 fl_X6_86 rfl dX6_join_47 ?_
    obtain ⟨u93, z94, eV92, hu95, h96, h97, h98⟩ := hq_o0 hP.1 hu74
    refine hp_calli (hp_runV (As := [.ref (u79)]) (rest := []) hx hb hml hown hts (t_X9_addAll l D cs B G (fun g => g == 5) V56 n hP.1 30 30 (u71) hu74 (u79) hu82 rfl rfl) hZ eV92 cv_X6_89 rfl rfl ⟨Nat.le_of_ble_eq_true rfl, Nat.le_of_ble_eq_true rfl⟩ rfl hl.1 rfl (Nat.le_of_ble_eq_true rfl) dX6_join_50 ⟨(Nat.le_of_ble_eq_true rfl), (Nat.le_of_ble_eq_true rfl)⟩) hZ (fun r89 V86 n87 _ _ hw88 hZ => ?_)
    obtain ⟨rfl, hq90, hr91⟩ := hw88
    have hP := hP.trans hq90 (by intro g h; simp_all)
    have b99 := hq_rng r89
    refine lv_if_eq (tgt := 91) hx hb dX6_join_53 (by decide) (fun c100 => ?_) (fun c100 => ?_)
    · have c100 : (r89).toInt = (0 : Int) := hq_eqi.mp c100
      exact hp_vret hx hb hr hlocks hZ ⟨rfl, hP⟩ dX6_join_91
    · have c100 : ¬ (r89).toInt = (0 : Int) := fun h9 => c100 (hq_eqi.mpr h9)
      refine lv_aload hx hb dX6_join_56 (lv_at hl 0 rfl) ?_
      obtain ⟨u102, u103, z104, eV101, hu105, hu106, h107, h108⟩ := hq_o7 hP.1 hu27
      refine hp_get (v := .ref (u102)) hx hb hts hown hZ eV101 fl_X6_86 rfl dX6_join_58 ?_
      refine lv_bipush (v := 32) hx hb dX6_join_61 (by decide) ?_
      obtain ⟨u116, z117, eV115, hu118, h119, h120, h121⟩ := hq_o0 hP.1 hu105
      refine hp_calli (hp_runV (As := [.int (32)]) (rest := []) hx hb hml hown hts (t_X9_add l D cs B G (fun g => g == 5) V86 n hP.1 30 (u102) hu105 (32) rfl rfl) hZ eV115 cv_X6_93 rfl rfl ⟨Nat.le_of_ble_eq_true rfl, Nat.le_of_ble_eq_true rfl⟩ rfl hl.1 rfl (Nat.le_of_ble_eq_true rfl) dX6_join_63 ⟨(Nat.le_of_ble_eq_true rfl), (Nat.le_of_ble_eq_true rfl)⟩) hZ (fun r112 V109 n110 _ _ hw111 hZ => ?_)
      obtain ⟨rfl, hq113, hr114⟩ := hw111
      have hP := hP.trans hq113 (by intro g h; simp_all)
      have b122 := hq_rng r112
      refine lv_if_eq (tgt := 91) hx hb dX6_join_66 (by decide) (fun c123 => ?_) (fun c123 => ?_)
      · have c123 : (r112).toInt = (0 : Int) := hq_eqi.mp c123
        exact hp_vret hx hb hr hlocks hZ ⟨rfl, hP⟩ dX6_join_91
      · have c123 : ¬ (r112).toInt = (0 : Int) := fun h9 => c123 (hq_eqi.mpr h9)
        refine lv_aload hx hb dX6_join_69 (lv_at hl 0 rfl) ?_
        obtain ⟨u125, u126, z127, eV124, hu128, hu129, h130, h131⟩ := hq_o7 hP.1 hu27
        refine hp_get (v := .ref (u125)) hx hb hts hown hZ eV124 fl_X6_86 rfl dX6_join_71 ?_
        refine lv_aload_n hx hb dX6_join_74 rfl (lv_at hl 4 rfl) ?_
        obtain ⟨u133, u134, z135, eV132, hu136, hu137, h138, h139⟩ := hq_o7 hP.1 h_f2
        refine hp_get (v := .ref (u133)) hx hb hts hown hZ eV132 fl_X6_86 rfl dX6_join_75 ?_
        obtain ⟨u147, z148, eV146, hu149, h150, h151, h152⟩ := hq_o0 hP.1 hu128
        refine hp_calli (hp_runV (As := [.ref (u133)]) (rest := []) hx hb hml hown hts (t_X9_addAll l D cs B G (fun g => g == 5) V109 n hP.1 30 30 (u125) hu128 (u133) hu136 rfl rfl) hZ eV146 cv_X6_89 rfl rfl ⟨Nat.le_of_ble_eq_true rfl, Nat.le_of_ble_eq_true rfl⟩ rfl hl.1 rfl (Nat.le_of_ble_eq_true rfl) dX6_join_78 ⟨(Nat.le_of_ble_eq_true rfl), (Nat.le_of_ble_eq_true rfl)⟩) hZ (fun r143 V140 n141 _ _ hw142 hZ => ?_)
        obtain ⟨rfl, hq144, hr145⟩ := hw142
        have hP := hP.trans hq144 (by intro g h; simp_all)
        have b153 := hq_rng r143
        refine lv_if_eq (tgt := 91) hx hb dX6_join_81 (by decide) (fun c154 => ?_) (fun c154 => ?_)
        · have c154 : (r143).toInt = (0 : Int) := hq_eqi.mp c154
          exact hp_vret hx hb hr hlocks hZ ⟨rfl, hP⟩ dX6_join_91
        · have c154 : ¬ (r143).toInt = (0 : Int) := fun h9 => c154 (hq_eqi.mpr h9)
          refine lv_aload_n hx hb dX6_join_84 rfl (lv_at hl 1 rfl) ?_
          have fx155 : V140 (t) = some (.inr (6, [.ref (u2), .int (z6), .ref (u3), .ref (u4), .ref (u5)])) := (hq144.2 (t) _ h_t rfl).trans ((hq113.2 (t) _ h_t rfl).trans ((hq90.2 (t) _ h_t rfl).trans ((hq60.2 (t) _ h_t rfl).trans ((hq46.2 (t) _ h_t rfl).trans ((hq32.2 (t) _ h_t rfl).trans ((hq17.2 (t) _ h_t rfl).trans (eV1)))))))
          refine hp_get (v := .ref (u2)) hx hb hts hown hZ fx155 fl_X6_14 rfl dX6_join_85 ?_
          have fx162 : V140 (u2) = some (.inr (3, [.ref (u20), .int (z21)])) := (hq144.2 (u2) _ hu7 rfl).trans ((hq113.2 (u2) _ hu7 rfl).trans ((hq90.2 (u2) _ hu7 rfl).trans ((hq60.2 (u2) _ hu7 rfl).trans ((hq46.2 (u2) _ hu7 rfl).trans ((hq32.2 (u2) _ hu7 rfl).trans ((hq17.2 (u2) _ hu7 rfl).trans (eV19)))))))
          refine hp_callv (hp_runV (As := []) (rest := []) hx hb hml hown hts (t_X3_keep l D cs B G  V140 n hP.1 4 (u2) hu7 ) hZ fx162 cv_X6_97 rfl rfl ⟨Nat.le_of_ble_eq_true rfl, Nat.le_of_ble_eq_true rfl⟩ rfl hl.1 rfl (Nat.le_of_ble_eq_true rfl) dX6_join_88 ⟨(Nat.le_of_ble_eq_true rfl), (Nat.le_of_ble_eq_true rfl)⟩) hZ (fun V156 n157 _ _ hw158 hZ => ?_)
          obtain ⟨rfl, hq160⟩ := hw158
          have hP := hP.trans hq160 (by intro g h; simp_all)
          exact hp_vret hx hb hr hlocks hZ ⟨rfl, hP⟩ dX6_join_91

set_option maxHeartbeats 4000000 in
set_option maxRecDepth 100000 in
theorem t_X6_join_rn (l : Launch) (D : va_G) (cs : Nat → ClassId) (B : Nat) (G : hq_G) (V : hp_V) (n : Nat) (hI : hq_I cs G V) (t : Nat) (h_t : G t = some (11, 0, 0, 0)) (k : Int32) (f1 : Nat) (h_f1 : G f1 = some (7, 0, 0, 0)) : hp_M l yX6_join cX6_join 5 none ({ frames := 4, cells := 0, slots := 0, locals := 92 }) D cs B V n [.ref (t), .int (k), .ref (f1), .null] (hp_QV D cs B (fun V' n' => n = n' ∧ hq_P cs G (fun g => g == 5 || g == 6 || g == 7) V V')) 0 0 := by
  refine hp_walk (R0 := RX6) (by decide) rfl ?_ (Nat.le_of_ble_eq_true rfl)
  intro p e s m below meth c ls hx hb hr hts hown hlocks hin hml hZ hl
  have hP : hq_P cs G (fun g => g == 5 || g == 6 || g == 7) V V := hq_P.rf hI
  have hl : lv_has ls 5 [(0, .ref (t)), (1, .int (k)), (2, .ref (f1)), (3, .null)] := hl
  have hb_k := hq_rng k
  refine lv_aload_n hx hb dX6_join_0 rfl (lv_at hl 0 rfl) ?_
  obtain ⟨u2, u3, u4, u5, z6, eV1, hu7, hu8, hu9, hu10, h11, h12⟩ := hq_o11 hP.1 h_t
  refine hp_get (v := .ref (u2)) hx hb hts hown hZ eV1 fl_X6_14 rfl dX6_join_1 ?_
  obtain ⟨u20, z21, eV19, hu22, h23, h24, h25⟩ := hq_o8 hP.1 hu7
  refine hp_callq (hp_runV (As := []) (rest := []) hx hb hml hown hts (t_X3_open l D cs B G  V n hP.1 4 (u2) hu7 ) hZ eV19 cv_X6_73 rfl rfl ⟨Nat.le_of_ble_eq_true rfl, Nat.le_of_ble_eq_true rfl⟩ rfl hl.1 rfl (Nat.le_of_ble_eq_true rfl) dX6_join_4 ⟨(Nat.le_of_ble_eq_true rfl), (Nat.le_of_ble_eq_true rfl)⟩) hZ (fun r16 V13 n14 _ _ hw15 hZ => ?_)
  obtain ⟨rfl, hq17, hr18⟩ := hw15
  have hP := hP.trans hq17 (by intro g h; simp_all)
  rcases r16 with _ | u26
  · refine W.eq (g2 := F0 m 7 ls [.null]) rfl ?_
    refine lv_astoreN (lv' := [(4, .null), (0, .ref (t)), (1, .int (k)), (2, .ref (f1)), (3, .null)]) hx hb dX6_join_7 hl (by decide) rfl (fun ls hl => ?_)
    refine lv_aloadN hx hb dX6_join_9 (lv_at hl 0 rfl) ?_
    refine lv_ifnullN (tgt := 22) hx hb dX6_join_11 (by decide) ?_
    exact hp_vret hx hb hr hlocks hZ ⟨rfl, hP⟩ dX6_join_22
  · refine W.eq (g2 := F0 m 7 ls [.ref (u26)]) rfl ?_
    have hu27 := hr18 u26 rfl
    refine lv_astore (lv' := [(4, .ref (u26)), (0, .ref (t)), (1, .int (k)), (2, .ref (f1)), (3, .null)]) hx hb dX6_join_7 hl (by decide) rfl (fun ls hl => ?_)
    refine lv_aload hx hb dX6_join_9 (lv_at hl 0 rfl) ?_
    refine lv_ifnull hx hb dX6_join_11 ?_
    refine lv_aload_n hx hb dX6_join_14 rfl (lv_at hl 3 rfl) ?_
    refine lv_ifnull hx hb dX6_join_15 ?_
    refine lv_aload_nN hx hb dX6_join_18 rfl (lv_at hl 4 rfl) ?_
    refine lv_ifnonnullN hx hb dX6_join_19 ?_
    exact hp_vret hx hb hr hlocks hZ ⟨rfl, hP⟩ dX6_join_22

set_option maxHeartbeats 4000000 in
set_option maxRecDepth 100000 in
theorem t_X6_join_nr (l : Launch) (D : va_G) (cs : Nat → ClassId) (B : Nat) (G : hq_G) (V : hp_V) (n : Nat) (hI : hq_I cs G V) (t : Nat) (h_t : G t = some (11, 0, 0, 0)) (k : Int32) (f2 : Nat) (h_f2 : G f2 = some (7, 0, 0, 0)) : hp_M l yX6_join cX6_join 5 none ({ frames := 4, cells := 0, slots := 0, locals := 92 }) D cs B V n [.ref (t), .int (k), .null, .ref (f2)] (hp_QV D cs B (fun V' n' => n = n' ∧ hq_P cs G (fun g => g == 5 || g == 6 || g == 7) V V')) 0 0 := by
  refine hp_walk (R0 := RX6) (by decide) rfl ?_ (Nat.le_of_ble_eq_true rfl)
  intro p e s m below meth c ls hx hb hr hts hown hlocks hin hml hZ hl
  have hP : hq_P cs G (fun g => g == 5 || g == 6 || g == 7) V V := hq_P.rf hI
  have hl : lv_has ls 5 [(0, .ref (t)), (1, .int (k)), (2, .null), (3, .ref (f2))] := hl
  have hb_k := hq_rng k
  refine lv_aload_n hx hb dX6_join_0 rfl (lv_at hl 0 rfl) ?_
  obtain ⟨u2, u3, u4, u5, z6, eV1, hu7, hu8, hu9, hu10, h11, h12⟩ := hq_o11 hP.1 h_t
  refine hp_get (v := .ref (u2)) hx hb hts hown hZ eV1 fl_X6_14 rfl dX6_join_1 ?_
  obtain ⟨u20, z21, eV19, hu22, h23, h24, h25⟩ := hq_o8 hP.1 hu7
  refine hp_callq (hp_runV (As := []) (rest := []) hx hb hml hown hts (t_X3_open l D cs B G  V n hP.1 4 (u2) hu7 ) hZ eV19 cv_X6_73 rfl rfl ⟨Nat.le_of_ble_eq_true rfl, Nat.le_of_ble_eq_true rfl⟩ rfl hl.1 rfl (Nat.le_of_ble_eq_true rfl) dX6_join_4 ⟨(Nat.le_of_ble_eq_true rfl), (Nat.le_of_ble_eq_true rfl)⟩) hZ (fun r16 V13 n14 _ _ hw15 hZ => ?_)
  obtain ⟨rfl, hq17, hr18⟩ := hw15
  have hP := hP.trans hq17 (by intro g h; simp_all)
  rcases r16 with _ | u26
  · refine W.eq (g2 := F0 m 7 ls [.null]) rfl ?_
    refine lv_astoreN (lv' := [(4, .null), (0, .ref (t)), (1, .int (k)), (2, .null), (3, .ref (f2))]) hx hb dX6_join_7 hl (by decide) rfl (fun ls hl => ?_)
    refine lv_aloadN hx hb dX6_join_9 (lv_at hl 0 rfl) ?_
    refine lv_ifnullN (tgt := 22) hx hb dX6_join_11 (by decide) ?_
    exact hp_vret hx hb hr hlocks hZ ⟨rfl, hP⟩ dX6_join_22
  · refine W.eq (g2 := F0 m 7 ls [.ref (u26)]) rfl ?_
    have hu27 := hr18 u26 rfl
    refine lv_astore (lv' := [(4, .ref (u26)), (0, .ref (t)), (1, .int (k)), (2, .null), (3, .ref (f2))]) hx hb dX6_join_7 hl (by decide) rfl (fun ls hl => ?_)
    refine lv_aload hx hb dX6_join_9 (lv_at hl 0 rfl) ?_
    refine lv_ifnull hx hb dX6_join_11 ?_
    refine lv_aload_nN hx hb dX6_join_14 rfl (lv_at hl 3 rfl) ?_
    refine lv_ifnullN (tgt := 22) hx hb dX6_join_15 (by decide) ?_
    exact hp_vret hx hb hr hlocks hZ ⟨rfl, hP⟩ dX6_join_22

set_option maxHeartbeats 4000000 in
set_option maxRecDepth 100000 in
theorem t_X6_join_nn (l : Launch) (D : va_G) (cs : Nat → ClassId) (B : Nat) (G : hq_G) (V : hp_V) (n : Nat) (hI : hq_I cs G V) (t : Nat) (h_t : G t = some (11, 0, 0, 0)) (k : Int32) : hp_M l yX6_join cX6_join 5 none ({ frames := 4, cells := 0, slots := 0, locals := 92 }) D cs B V n [.ref (t), .int (k), .null, .null] (hp_QV D cs B (fun V' n' => n = n' ∧ hq_P cs G (fun g => g == 5 || g == 6 || g == 7) V V')) 0 0 := by
  refine hp_walk (R0 := RX6) (by decide) rfl ?_ (Nat.le_of_ble_eq_true rfl)
  intro p e s m below meth c ls hx hb hr hts hown hlocks hin hml hZ hl
  have hP : hq_P cs G (fun g => g == 5 || g == 6 || g == 7) V V := hq_P.rf hI
  have hl : lv_has ls 5 [(0, .ref (t)), (1, .int (k)), (2, .null), (3, .null)] := hl
  have hb_k := hq_rng k
  refine lv_aload_n hx hb dX6_join_0 rfl (lv_at hl 0 rfl) ?_
  obtain ⟨u2, u3, u4, u5, z6, eV1, hu7, hu8, hu9, hu10, h11, h12⟩ := hq_o11 hP.1 h_t
  refine hp_get (v := .ref (u2)) hx hb hts hown hZ eV1 fl_X6_14 rfl dX6_join_1 ?_
  obtain ⟨u20, z21, eV19, hu22, h23, h24, h25⟩ := hq_o8 hP.1 hu7
  refine hp_callq (hp_runV (As := []) (rest := []) hx hb hml hown hts (t_X3_open l D cs B G  V n hP.1 4 (u2) hu7 ) hZ eV19 cv_X6_73 rfl rfl ⟨Nat.le_of_ble_eq_true rfl, Nat.le_of_ble_eq_true rfl⟩ rfl hl.1 rfl (Nat.le_of_ble_eq_true rfl) dX6_join_4 ⟨(Nat.le_of_ble_eq_true rfl), (Nat.le_of_ble_eq_true rfl)⟩) hZ (fun r16 V13 n14 _ _ hw15 hZ => ?_)
  obtain ⟨rfl, hq17, hr18⟩ := hw15
  have hP := hP.trans hq17 (by intro g h; simp_all)
  rcases r16 with _ | u26
  · refine W.eq (g2 := F0 m 7 ls [.null]) rfl ?_
    refine lv_astoreN (lv' := [(4, .null), (0, .ref (t)), (1, .int (k)), (2, .null), (3, .null)]) hx hb dX6_join_7 hl (by decide) rfl (fun ls hl => ?_)
    refine lv_aloadN hx hb dX6_join_9 (lv_at hl 0 rfl) ?_
    refine lv_ifnullN (tgt := 22) hx hb dX6_join_11 (by decide) ?_
    exact hp_vret hx hb hr hlocks hZ ⟨rfl, hP⟩ dX6_join_22
  · refine W.eq (g2 := F0 m 7 ls [.ref (u26)]) rfl ?_
    have hu27 := hr18 u26 rfl
    refine lv_astore (lv' := [(4, .ref (u26)), (0, .ref (t)), (1, .int (k)), (2, .null), (3, .null)]) hx hb dX6_join_7 hl (by decide) rfl (fun ls hl => ?_)
    refine lv_aload hx hb dX6_join_9 (lv_at hl 0 rfl) ?_
    refine lv_ifnull hx hb dX6_join_11 ?_
    refine lv_aload_nN hx hb dX6_join_14 rfl (lv_at hl 3 rfl) ?_
    refine lv_ifnullN (tgt := 22) hx hb dX6_join_15 (by decide) ?_
    exact hp_vret hx hb hr hlocks hZ ⟨rfl, hP⟩ dX6_join_22

set_option maxHeartbeats 4000000 in
set_option maxRecDepth 100000 in
theorem t_X6_makeAt (l : Launch) (D : va_G) (cs : Nat → ClassId) (B : Nat) (G : hq_G) (V : hp_V) (n : Nat) (hI : hq_I cs G V) (b : Nat) (t : Nat) (h_t : G t = some (11, 0, 0, 0)) (u : Nat) (h_u : G u = some (6, b, 0, 0)) (v : Int32) (te : Int32) (pe : Int32) (hv0 : 0 ≤ v.toInt) (hv1 : v.toInt < 30) (hJ : hq_J cs V u) : hp_M l yX6_makeAt cX6_makeAt 9 none ({ frames := 6, cells := 0, slots := 0, locals := 149 }) D cs B V n [.ref (t), .ref (u), .int (v), .int (te), .int (pe)] (hp_QV D cs B (fun V' n' => n = n' ∧ hq_P cs G (fun g => g == 5 || g == 6 || g == 7) V V')) 0 0 := by
  refine hp_walk (R0 := RX6) (by decide) rfl ?_ (Nat.le_of_ble_eq_true rfl)
  intro p e s m below meth c ls hx hb hr hts hown hlocks hin hml hZ hl
  have hP : hq_P cs G (fun g => g == 5 || g == 6 || g == 7) V V := hq_P.rf hI
  have hl : lv_has ls 9 [(0, .ref (t)), (1, .ref (u)), (2, .int (v)), (3, .int (te)), (4, .int (pe))] := hl
  have hb_v := hq_rng v
  have hb_te := hq_rng te
  have hb_pe := hq_rng pe
  refine lv_aload_n hx hb dX6_makeAt_0 rfl (lv_at hl 1 rfl) ?_
  refine lv_iconst (v := 3) hx hb dX6_makeAt_1 (by decide) ?_
  refine lv_iconst (v := 0) hx hb dX6_makeAt_2 (by decide) ?_
  refine lv_iload_n hx hb dX6_makeAt_3 rfl (lv_at hl 2 rfl) ?_
  refine lv_iload_n hx hb dX6_makeAt_4 rfl (lv_at hl 3 rfl) ?_
  refine lv_iload hx hb dX6_makeAt_5 (lv_at hl 4 rfl) ?_
  obtain ⟨u8, u9, u10, u11, z12, z13, z14, eV7, hu15, hu16, hu17, hu18, ⟨h19, h20⟩, ⟨h21, h22⟩, h23, h24⟩ := hq_o6 hP.1 h_u
  refine hp_calli (hp_runV (As := [.int (3), .int (0), .int (v), .int (te), .int (pe)]) (rest := []) hx hb hml hown hts (t_X0_nextFitting l D cs B G  V n hP.1 b (u) h_u (3) (0) (v) (te) (pe) (by first | omega | decide) (by omega) (by omega)) hZ eV7 cv_X6_33 rfl rfl ⟨Nat.le_of_ble_eq_true rfl, Nat.le_of_ble_eq_true rfl⟩ rfl hl.1 rfl (Nat.le_of_ble_eq_true rfl) dX6_makeAt_7 ⟨(Nat.le_of_ble_eq_true rfl), (Nat.le_of_ble_eq_true rfl)⟩) hZ (fun r4 V1 n2 _ _ hw3 hZ => ?_)
  obtain ⟨rfl, hq5, hr6⟩ := hw3
  have hP := hP.trans hq5 (fun _ _ => rfl)
  obtain ⟨hcr, hcl⟩ := hr6
  refine lv_istore (lv' := [(5, .int (r4)), (0, .ref (t)), (1, .ref (u)), (2, .int (v)), (3, .int (te)), (4, .int (pe))]) hx hb dX6_makeAt_10 hl (by decide) rfl (fun ls hl => ?_)
  refine lv_iload hx hb dX6_makeAt_12 (lv_at hl 0 rfl) ?_
  refine lv_iconst (v := -1) hx hb dX6_makeAt_14 (by decide) ?_
  refine lv_icmp_eq (tgt := 46) hx hb dX6_makeAt_15 (by decide) (fun c25 => ?_) (fun c25 => ?_)
  · have c25 : (r4).toInt = (-1 : Int) := hq_eqi.mp c25
    refine lv_aload_n hx hb dX6_makeAt_46 rfl (lv_at hl 1 rfl) ?_
    refine lv_aload_n hx hb dX6_makeAt_47 rfl (lv_at hl 2 rfl) ?_
    refine lv_aload_n hx hb dX6_makeAt_48 rfl (lv_at hl 1 rfl) ?_
    obtain ⟨u27, u28, u29, u30, z31, eV26, hu32, hu33, hu34, hu35, h36, h37⟩ := hq_o11 hP.1 h_t
    refine hp_get (v := .ref (u27)) hx hb hts hown hZ eV26 fl_X6_14 rfl dX6_makeAt_49 ?_
    refine lv_iload_n hx hb dX6_makeAt_52 rfl (lv_at hl 3 rfl) ?_
    refine lv_iload_n hx hb dX6_makeAt_53 rfl (lv_at hl 4 rfl) ?_
    refine lv_iload hx hb dX6_makeAt_54 (lv_at hl 5 rfl) ?_
    refine hp_callv (hp_runV (As := [.ref (u), .ref (u27), .int (v), .int (te), .int (pe)]) (rest := []) hx hb hml hown hts (t_X6_makePlain l D cs B G  V1 n hP.1 b 4 (t) h_t (u) h_u (u27) hu32 (v) (te) (pe) (by omega) (by omega)) hZ eV26 cv_X6_39 rfl rfl ⟨Nat.le_of_ble_eq_true rfl, Nat.le_of_ble_eq_true rfl⟩ rfl hl.1 rfl (Nat.le_of_ble_eq_true rfl) dX6_makeAt_56 ⟨(Nat.le_of_ble_eq_true rfl), (Nat.le_of_ble_eq_true rfl)⟩) hZ (fun V38 n39 _ _ hw40 hZ => ?_)
    obtain ⟨rfl, hq42⟩ := hw40
    have hP := hP.trans hq42 (by intro g h; simp_all)
    exact hp_vret hx hb hr hlocks hZ ⟨rfl, hP⟩ dX6_makeAt_59
  · have c25 : ¬ (r4).toInt = (-1 : Int) := fun h9 => c25 (hq_eqi.mpr h9)
    refine lv_aload_n hx hb dX6_makeAt_18 rfl (lv_at hl 2 rfl) ?_
    refine lv_iconst (v := 5) hx hb dX6_makeAt_19 (by decide) ?_
    refine lv_iconst (v := 0) hx hb dX6_makeAt_20 (by decide) ?_
    refine lv_iload_n hx hb dX6_makeAt_21 rfl (lv_at hl 3 rfl) ?_
    refine lv_iload_n hx hb dX6_makeAt_22 rfl (lv_at hl 4 rfl) ?_
    refine lv_iload hx hb dX6_makeAt_23 (lv_at hl 5 rfl) ?_
    have fx50 : V1 (u) = some (.inr (0, [.ref (u8), .int (z12), .ref (u9), .ref (u10), .int (z13), .ref (u11), .int (z14)])) := (hq5.2 (u) _ h_u rfl).trans (eV7)
    refine hp_calli (hp_runV (As := [.int (5), .int (0), .int (v), .int (te), .int (pe)]) (rest := []) hx hb hml hown hts (t_X0_nextFitting l D cs B G  V1 n hP.1 b (u) h_u (5) (0) (v) (te) (pe) (by first | omega | decide) (by omega) (by omega)) hZ fx50 cv_X6_33 rfl rfl ⟨Nat.le_of_ble_eq_true rfl, Nat.le_of_ble_eq_true rfl⟩ rfl hl.1 rfl (Nat.le_of_ble_eq_true rfl) dX6_makeAt_25 ⟨(Nat.le_of_ble_eq_true rfl), (Nat.le_of_ble_eq_true rfl)⟩) hZ (fun r47 V44 n45 _ _ hw46 hZ => ?_)
    obtain ⟨rfl, hq48, hr49⟩ := hw46
    have hP := hP.trans hq48 (fun _ _ => rfl)
    have b51 := hq_rng r47
    refine lv_iconst (v := -1) hx hb dX6_makeAt_28 (by decide) ?_
    refine lv_icmp_ne (tgt := 46) hx hb dX6_makeAt_29 (by decide) (fun c52 => ?_) (fun c52 => ?_)
    · have c52 : ¬ (r47).toInt = (-1 : Int) := fun h9 => c52 (hq_eqi.mpr h9)
      refine lv_aload_n hx hb dX6_makeAt_46 rfl (lv_at hl 1 rfl) ?_
      refine lv_aload_n hx hb dX6_makeAt_47 rfl (lv_at hl 2 rfl) ?_
      refine lv_aload_n hx hb dX6_makeAt_48 rfl (lv_at hl 1 rfl) ?_
      obtain ⟨u54, u55, u56, u57, z58, eV53, hu59, hu60, hu61, hu62, h63, h64⟩ := hq_o11 hP.1 h_t
      refine hp_get (v := .ref (u54)) hx hb hts hown hZ eV53 fl_X6_14 rfl dX6_makeAt_49 ?_
      refine lv_iload_n hx hb dX6_makeAt_52 rfl (lv_at hl 3 rfl) ?_
      refine lv_iload_n hx hb dX6_makeAt_53 rfl (lv_at hl 4 rfl) ?_
      refine lv_iload hx hb dX6_makeAt_54 (lv_at hl 5 rfl) ?_
      refine hp_callv (hp_runV (As := [.ref (u), .ref (u54), .int (v), .int (te), .int (pe)]) (rest := []) hx hb hml hown hts (t_X6_makePlain l D cs B G  V44 n hP.1 b 4 (t) h_t (u) h_u (u54) hu59 (v) (te) (pe) (by omega) (by omega)) hZ eV53 cv_X6_39 rfl rfl ⟨Nat.le_of_ble_eq_true rfl, Nat.le_of_ble_eq_true rfl⟩ rfl hl.1 rfl (Nat.le_of_ble_eq_true rfl) dX6_makeAt_56 ⟨(Nat.le_of_ble_eq_true rfl), (Nat.le_of_ble_eq_true rfl)⟩) hZ (fun V65 n66 _ _ hw67 hZ => ?_)
      obtain ⟨rfl, hq69⟩ := hw67
      have hP := hP.trans hq69 (by intro g h; simp_all)
      exact hp_vret hx hb hr hlocks hZ ⟨rfl, hP⟩ dX6_makeAt_59
    · have c52 : (r47).toInt = (-1 : Int) := hq_eqi.mp c52
      refine lv_aload_n hx hb dX6_makeAt_32 rfl (lv_at hl 2 rfl) ?_
      refine lv_iconst (v := 4) hx hb dX6_makeAt_33 (by decide) ?_
      refine lv_iconst (v := 0) hx hb dX6_makeAt_34 (by decide) ?_
      refine lv_iload_n hx hb dX6_makeAt_35 rfl (lv_at hl 3 rfl) ?_
      refine lv_iload_n hx hb dX6_makeAt_36 rfl (lv_at hl 4 rfl) ?_
      refine lv_iload hx hb dX6_makeAt_37 (lv_at hl 5 rfl) ?_
      have fx77 : V44 (u) = some (.inr (0, [.ref (u8), .int (z12), .ref (u9), .ref (u10), .int (z13), .ref (u11), .int (z14)])) := (hq48.2 (u) _ h_u rfl).trans (fx50)
      refine hp_calli (hp_runV (As := [.int (4), .int (0), .int (v), .int (te), .int (pe)]) (rest := []) hx hb hml hown hts (t_X0_nextFitting l D cs B G  V44 n hP.1 b (u) h_u (4) (0) (v) (te) (pe) (by first | omega | decide) (by omega) (by omega)) hZ fx77 cv_X6_33 rfl rfl ⟨Nat.le_of_ble_eq_true rfl, Nat.le_of_ble_eq_true rfl⟩ rfl hl.1 rfl (Nat.le_of_ble_eq_true rfl) dX6_makeAt_39 ⟨(Nat.le_of_ble_eq_true rfl), (Nat.le_of_ble_eq_true rfl)⟩) hZ (fun r74 V71 n72 _ _ hw73 hZ => ?_)
      obtain ⟨rfl, hq75, hr76⟩ := hw73
      have hP := hP.trans hq75 (fun _ _ => rfl)
      have b78 := hq_rng r74
      refine lv_iconst (v := -1) hx hb dX6_makeAt_42 (by decide) ?_
      refine lv_icmp_eq (tgt := 60) hx hb dX6_makeAt_43 (by decide) (fun c79 => ?_) (fun c79 => ?_)
      · have c79 : (r74).toInt = (-1 : Int) := hq_eqi.mp c79
        refine lv_aload_n hx hb dX6_makeAt_60 rfl (lv_at hl 2 rfl) ?_
        have fx80 : V71 (u) = some (.inr (0, [.ref (u8), .int (z12), .ref (u9), .ref (u10), .int (z13), .ref (u11), .int (z14)])) := (hq75.2 (u) _ h_u rfl).trans (fx77)
        refine hp_get (v := .ref (u11)) hx hb hts hown hZ fx80 fl_X6_43 rfl dX6_makeAt_61 ?_
        refine lv_iload hx hb dX6_makeAt_64 (lv_at hl 0 rfl) ?_
        obtain ⟨hN83, g82, eV81, hf84, _⟩ := hq_o4 hP.1 hu18
        obtain ⟨u85, hx86, hu87⟩ := hf84 (r4 : Int32).toNatClampNeg (hq_ix (by omega) (by omega))
        have hu87 : G u85 = some (5, b, 0, 0) := hu87
        refine hp_aald (v := .ref (u85)) hx hb hZ 6 eV81 rfl (hq_in (by omega) (by omega)) (by rw [hx86]; rfl) dX6_makeAt_66 ?_
        refine lv_astore (lv' := [(6, .ref (u85)), (5, .int (r4)), (0, .ref (t)), (1, .ref (u)), (2, .int (v)), (3, .int (te)), (4, .int (pe))]) hx hb dX6_makeAt_67 hl (by decide) rfl (fun ls hl => ?_)
        obtain ⟨z89, z90, z91, z92, z93, z94, z95, z96, u97, u98, eV88, hu99, hu100, h101, h102⟩ := hq_o5 hP.1 hu87
        obtain ⟨k1, h1, hL1, hk1⟩ := hcl (by omega)
        have hL2 := hL1.keep hI h_u (fun x t hx hg => hP.2 x t hx (by rw [hg]; rfl))
        obtain ⟨e1, e2⟩ := hL2.same fx80 eV81 hx86 eV88
        have hk3 : k1.toInt = 3 := hk1
        have hge := hJ _ _ _ hL1 hk3
        rw [← e2] at hge
        refine lv_aload_n hx hb dX6_makeAt_69 rfl (lv_at hl 2 rfl) ?_
        refine lv_aload_n hx hb dX6_makeAt_70 rfl (lv_at hl 3 rfl) ?_
        refine lv_aload_n hx hb dX6_makeAt_71 rfl (lv_at hl 2 rfl) ?_
        obtain ⟨u104, u105, u106, u107, z108, eV103, hu109, hu110, hu111, hu112, h113, h114⟩ := hq_o11 hP.1 h_t
        refine hp_get (v := .ref (u105)) hx hb hts hown hZ eV103 fl_X6_20 rfl dX6_makeAt_72 ?_
        refine lv_aload hx hb dX6_makeAt_75 (lv_at hl 0 rfl) ?_
        refine hp_get (v := .int (z93)) hx hb hts hown hZ eV88 fl_X6_47 rfl dX6_makeAt_77 ?_
        refine lv_aload hx hb dX6_makeAt_80 (lv_at hl 0 rfl) ?_
        refine hp_get (v := .int (z94)) hx hb hts hown hZ eV88 fl_X6_53 rfl dX6_makeAt_82 ?_
        refine lv_iload hx hb dX6_makeAt_85 (lv_at hl 6 rfl) ?_
        refine hp_callv (hp_runV (As := [.ref (u), .ref (u105), .int (z93), .int (z94), .int (pe)]) (rest := []) hx hb hml hown hts (t_X6_makePlain l D cs B G  V71 n hP.1 b 2 (t) h_t (u) h_u (u105) hu110 (z93) (z94) (pe) (by omega) (by omega)) hZ eV103 cv_X6_39 rfl rfl ⟨Nat.le_of_ble_eq_true rfl, Nat.le_of_ble_eq_true rfl⟩ rfl hl.1 rfl (Nat.le_of_ble_eq_true rfl) dX6_makeAt_87 ⟨(Nat.le_of_ble_eq_true rfl), (Nat.le_of_ble_eq_true rfl)⟩) hZ (fun V115 n116 _ _ hw117 hZ => ?_)
        obtain ⟨rfl, hq119⟩ := hw117
        have hP := hP.trans hq119 (by intro g h; simp_all)
        refine lv_aload_n hx hb dX6_makeAt_90 rfl (lv_at hl 2 rfl) ?_
        refine lv_aload_n hx hb dX6_makeAt_91 rfl (lv_at hl 3 rfl) ?_
        refine lv_aload_n hx hb dX6_makeAt_92 rfl (lv_at hl 2 rfl) ?_
        obtain ⟨u122, u123, u124, u125, z126, eV121, hu127, hu128, hu129, hu130, h131, h132⟩ := hq_o11 hP.1 h_t
        refine hp_get (v := .ref (u124)) hx hb hts hown hZ eV121 fl_X6_23 rfl dX6_makeAt_93 ?_
        refine lv_iload_n hx hb dX6_makeAt_96 rfl (lv_at hl 4 rfl) ?_
        refine lv_aload hx hb dX6_makeAt_97 (lv_at hl 0 rfl) ?_
        have fx133 : V115 (u85) = some (.inr (5, [.int (z89), .int (z90), .int (z91), .int (z92), .int (z93), .int (z94), .int (z95), .int (z96), .ref (u97), .ref (u98)])) := (hq119.2 (u85) _ hu87 rfl).trans (eV88)
        refine hp_get (v := .int (z95)) hx hb hts hown hZ fx133 fl_X6_56 rfl dX6_makeAt_99 ?_
        refine lv_iconst (v := 0) hx hb dX6_makeAt_102 (by decide) ?_
        refine hp_callv (hp_runV (As := [.ref (u), .ref (u124), .int (v), .int (z95), .int (0)]) (rest := []) hx hb hml hown hts (t_X6_makePlain l D cs B G  V115 n hP.1 b 2 (t) h_t (u) h_u (u124) hu129 (v) (z95) (0) (by omega) (by omega)) hZ eV121 cv_X6_39 rfl rfl ⟨Nat.le_of_ble_eq_true rfl, Nat.le_of_ble_eq_true rfl⟩ rfl hl.1 rfl (Nat.le_of_ble_eq_true rfl) dX6_makeAt_103 ⟨(Nat.le_of_ble_eq_true rfl), (Nat.le_of_ble_eq_true rfl)⟩) hZ (fun V134 n135 _ _ hw136 hZ => ?_)
        obtain ⟨rfl, hq138⟩ := hw136
        have hP := hP.trans hq138 (by intro g h; simp_all)
        refine lv_aload_n hx hb dX6_makeAt_106 rfl (lv_at hl 2 rfl) ?_
        obtain ⟨u141, u142, u143, u144, z145, eV140, hu146, hu147, hu148, hu149, h150, h151⟩ := hq_o11 hP.1 h_t
        refine hp_get (v := .ref (u141)) hx hb hts hown hZ eV140 fl_X6_14 rfl dX6_makeAt_107 ?_
        obtain ⟨u159, z160, eV158, hu161, h162, h163, h164⟩ := hq_o8 hP.1 hu146
        refine hp_callv (hp_runV (As := []) (rest := []) hx hb hml hown hts (t_X3_clear l D cs B G  V134 n hP.1 4 (u141) hu146 ) hZ eV158 cv_X6_59 rfl rfl ⟨Nat.le_of_ble_eq_true rfl, Nat.le_of_ble_eq_true rfl⟩ rfl hl.1 rfl (Nat.le_of_ble_eq_true rfl) dX6_makeAt_110 ⟨(Nat.le_of_ble_eq_true rfl), (Nat.le_of_ble_eq_true rfl)⟩) hZ (fun V152 n153 _ _ hw154 hZ => ?_)
        obtain ⟨rfl, hq156⟩ := hw154
        have hP := hP.trans hq156 (by intro g h; simp_all)
        refine lv_iconst (v := 0) hx hb dX6_makeAt_113 (by decide) ?_
        refine lv_istore (lv' := [(7, .int (0)), (6, .ref (u85)), (5, .int (r4)), (0, .ref (t)), (1, .ref (u)), (2, .int (v)), (3, .int (te)), (4, .int (pe))]) hx hb dX6_makeAt_114 hl (by decide) rfl (fun ls hl => ?_)
        have hl165 : (0 : Int32).toInt = 0 := by decide
        suffices lp116 : ∀ (k9 : Nat) (V9 : hp_V) (H9 : Heap) (locs9 : List Loc) (ls : Array Slot) (i : Int32), (100 - i.toInt).toNat = k9 → hp_Z D cs B s V9 H9 n locs9 → hq_P cs G (fun g => g == 5 || g == 6 || g == 7) V V9 → 0 ≤ i.toInt → i.toInt ≤ 4 → lv_has ls 9 [(7, .int (i)), (6, .ref (u85)), (5, .int (r4)), (0, .ref (t)), (1, .ref (u)), (2, .int (v)), (3, .int (te)), (4, .int (pe))] → W p l e ({ frames := 6, cells := 0, slots := 0, locals := 149 }) s m ([.ref (t), .ref (u), .int (v), .int (te), .int (pe)] : List Value).toArray below meth c H9 locs9 0 0 (MQ below (hp_QV D cs B (fun V' n' => n = n' ∧ hq_P cs G (fun g => g == 5 || g == 6 || g == 7) V V')) ([.ref (t), .ref (u), .int (v), .int (te), .int (pe)] : List Value).toArray s 0 0 (hp_F B)) (F0 m 116 ls []) from lp116 _ _ _ _ ls (0) rfl hZ hP (by omega) (by omega) (lv_sub hl [0, 1, 2, 3, 4, 5, 6, 7] rfl)
        intro k9
        induction k9 using Nat.strongRecOn with
        | _ k9 ih116 =>
          intro V9 H9 locs9 ls i hk116 hZ hP hv166 hv167 hl
          have hb_i := hq_rng i
          have hP_116 := hP
          refine lv_iload hx hb dX6_makeAt_116 (lv_at hl 0 rfl) ?_
          refine lv_aload_n hx hb dX6_makeAt_118 rfl (lv_at hl 3 rfl) ?_
          obtain ⟨u169, u170, u171, u172, z173, eV168, hu174, hu175, hu176, hu177, h178, h179⟩ := hq_o11 hP.1 h_t
          refine hp_get (v := .ref (u170)) hx hb hts hown hZ eV168 fl_X6_20 rfl dX6_makeAt_119 ?_
          obtain ⟨u181, z182, eV180, hu183, h184, h185, h186⟩ := hq_o8 hP.1 hu175
          refine hp_get (v := .int (z182)) hx hb hts hown hZ eV180 fl_X6_62 rfl dX6_makeAt_122 ?_
          refine lv_icmp_ge (tgt := 179) hx hb dX6_makeAt_125 (by decide) (fun c187 => ?_) (fun c187 => ?_)
          · have c187 : (z182).toInt ≤ (i).toInt := hq_lei.mp c187
            exact hp_vret hx hb hr hlocks hZ ⟨rfl, hP⟩ dX6_makeAt_179
          · have c187 : ¬ (z182).toInt ≤ (i).toInt := fun h9 => c187 (hq_lei.mpr h9)
            refine lv_iconst (v := 0) hx hb dX6_makeAt_128 (by decide) ?_
            refine lv_istore (lv' := [(8, .int (0)), (7, .int (i)), (6, .ref (u85)), (5, .int (r4)), (0, .ref (t)), (1, .ref (u)), (2, .int (v)), (3, .int (te)), (4, .int (pe))]) hx hb dX6_makeAt_129 hl (by decide) rfl (fun ls hl => ?_)
            have hl188 : (0 : Int32).toInt = 0 := by decide
            suffices lp131 : ∀ (k9 : Nat) (V9 : hp_V) (H9 : Heap) (locs9 : List Loc) (ls : Array Slot) (j : Int32), (100 - j.toInt).toNat = k9 → hp_Z D cs B s V9 H9 n locs9 → hq_P cs G (fun g => g == 5 || g == 6 || g == 7) V V9 → 0 ≤ j.toInt → j.toInt ≤ 4 → lv_has ls 9 [(8, .int (j)), (7, .int (i)), (6, .ref (u85)), (5, .int (r4)), (0, .ref (t)), (1, .ref (u)), (2, .int (v)), (3, .int (te)), (4, .int (pe))] → W p l e ({ frames := 6, cells := 0, slots := 0, locals := 149 }) s m ([.ref (t), .ref (u), .int (v), .int (te), .int (pe)] : List Value).toArray below meth c H9 locs9 0 0 (MQ below (hp_QV D cs B (fun V' n' => n = n' ∧ hq_P cs G (fun g => g == 5 || g == 6 || g == 7) V V')) ([.ref (t), .ref (u), .int (v), .int (te), .int (pe)] : List Value).toArray s 0 0 (hp_F B)) (F0 m 131 ls []) from lp131 _ _ _ _ ls (0) rfl hZ hP (by omega) (by omega) (lv_sub hl [0, 1, 2, 3, 4, 5, 6, 7, 8] rfl)
            intro k9
            induction k9 using Nat.strongRecOn with
            | _ k9 ih131 =>
              intro V9 H9 locs9 ls j hk131 hZ hP hv189 hv190 hl
              have hb_j := hq_rng j
              have hP_131 := hP
              refine lv_iload hx hb dX6_makeAt_131 (lv_at hl 0 rfl) ?_
              refine lv_aload_n hx hb dX6_makeAt_133 rfl (lv_at hl 4 rfl) ?_
              obtain ⟨u192, u193, u194, u195, z196, eV191, hu197, hu198, hu199, hu200, h201, h202⟩ := hq_o11 hP.1 h_t
              refine hp_get (v := .ref (u194)) hx hb hts hown hZ eV191 fl_X6_23 rfl dX6_makeAt_134 ?_
              obtain ⟨u204, z205, eV203, hu206, h207, h208, h209⟩ := hq_o8 hP.1 hu199
              refine hp_get (v := .int (z205)) hx hb hts hown hZ eV203 fl_X6_62 rfl dX6_makeAt_137 ?_
              refine lv_icmp_ge (tgt := 173) hx hb dX6_makeAt_140 (by decide) (fun c210 => ?_) (fun c210 => ?_)
              · have c210 : (z205).toInt ≤ (j).toInt := hq_lei.mp c210
                obtain ⟨y211, ey212⟩ : ∃ y : Int32, y = i + (1) := ⟨_, rfl⟩
                obtain ⟨k213, hk214, b215, b216⟩ := hq_add (i) (1)
                rw [← ey212] at hk214 b215 b216
                have hk214 : (y211).toInt = (i).toInt + (1) + k213 * 4294967296 := hk214
                refine lv_iinc (v := y211) (lv' := [(7, .int (y211)), (8, .int (j)), (6, .ref (u85)), (5, .int (r4)), (0, .ref (t)), (1, .ref (u)), (2, .int (v)), (3, .int (te)), (4, .int (pe))]) hx hb dX6_makeAt_173 hl (k := 1) rfl (by rw [ey212]; rfl) (by decide) rfl (fun ls hl => ?_)
                refine lv_goto (tgt := 116) hx hb dX6_makeAt_176 (by decide) ?_
                exact ih116 _ (by omega) _ _ _ ls (y211) rfl hZ hP (by omega) (by omega) (lv_sub hl [0, 2, 3, 4, 5, 6, 7, 8] rfl)
              · have c210 : ¬ (z205).toInt ≤ (j).toInt := fun h9 => c210 (hq_lei.mpr h9)
                refine lv_aload_n hx hb dX6_makeAt_143 rfl (lv_at hl 4 rfl) ?_
                refine lv_iload hx hb dX6_makeAt_144 (lv_at hl 3 rfl) ?_
                refine lv_aload_n hx hb dX6_makeAt_146 rfl (lv_at hl 4 rfl) ?_
                refine hp_get (v := .ref (u193)) hx hb hts hown hZ eV191 fl_X6_20 rfl dX6_makeAt_147 ?_
                refine lv_iload hx hb dX6_makeAt_150 (lv_at hl 1 rfl) ?_
                obtain ⟨u224, z225, eV223, hu226, h227, h228, h229⟩ := hq_o8 hP.1 hu198
                refine hp_callq (hp_runV (As := [.int (i)]) (rest := [.int (r4), .ref (t)]) hx hb hml hown hts (t_X3_get l D cs B G  V9 n hP.1 2 (u193) hu198 (i) ) hZ eV223 cv_X6_65 rfl rfl ⟨Nat.le_of_ble_eq_true rfl, Nat.le_of_ble_eq_true rfl⟩ rfl hl.1 rfl (Nat.le_of_ble_eq_true rfl) dX6_makeAt_152 ⟨(Nat.le_of_ble_eq_true rfl), (Nat.le_of_ble_eq_true rfl)⟩) hZ (fun r220 V217 n218 _ _ hw219 hZ => ?_)
                obtain ⟨rfl, hq221, hr222⟩ := hw219
                have hP := hP.trans hq221 (fun _ _ => rfl)
                rcases r220 with _ | u230
                · refine W.eq (g2 := F0 m 155 ls [.null, .int (r4), .ref (t)]) rfl ?_
                  refine lv_aload_n hx hb dX6_makeAt_155 rfl (lv_at hl 4 rfl) ?_
                  have fx232 : V217 (t) = some (.inr (6, [.ref (u192), .int (z196), .ref (u193), .ref (u194), .ref (u195)])) := (hq221.2 (t) _ h_t rfl).trans (eV191)
                  refine hp_get (v := .ref (u194)) hx hb hts hown hZ fx232 fl_X6_23 rfl dX6_makeAt_156 ?_
                  refine lv_iload hx hb dX6_makeAt_159 (lv_at hl 0 rfl) ?_
                  have fx239 : V217 (u194) = some (.inr (3, [.ref (u204), .int (z205)])) := (hq221.2 (u194) _ hu199 rfl).trans (eV203)
                  refine hp_callq (hp_runV (As := [.int (j)]) (rest := [.null, .int (r4), .ref (t)]) hx hb hml hown hts (t_X3_get l D cs B G  V217 n hP.1 2 (u194) hu199 (j) ) hZ fx239 cv_X6_65 rfl rfl ⟨Nat.le_of_ble_eq_true rfl, Nat.le_of_ble_eq_true rfl⟩ rfl hl.1 rfl (Nat.le_of_ble_eq_true rfl) dX6_makeAt_161 ⟨(Nat.le_of_ble_eq_true rfl), (Nat.le_of_ble_eq_true rfl)⟩) hZ (fun r236 V233 n234 _ _ hw235 hZ => ?_)
                  obtain ⟨rfl, hq237, hr238⟩ := hw235
                  have hP := hP.trans hq237 (fun _ _ => rfl)
                  rcases r236 with _ | u240
                  · refine W.eq (g2 := F0 m 164 ls [.null, .null, .int (r4), .ref (t)]) rfl ?_
                    have fx248 : V233 (t) = some (.inr (6, [.ref (u192), .int (z196), .ref (u193), .ref (u194), .ref (u195)])) := (hq237.2 (t) _ h_t rfl).trans (fx232)
                    refine hp_callv (hp_runV (As := [.int (r4), .null, .null]) (rest := []) hx hb hml hown hts (t_X6_join_nn l D cs B G  V233 n hP.1  (t) h_t (r4) ) hZ fx248 cv_X6_69 rfl rfl ⟨Nat.le_of_ble_eq_true rfl, Nat.le_of_ble_eq_true rfl⟩ rfl hl.1 rfl (Nat.le_of_ble_eq_true rfl) dX6_makeAt_164 ⟨(Nat.le_of_ble_eq_true rfl), (Nat.le_of_ble_eq_true rfl)⟩) hZ (fun V242 n243 _ _ hw244 hZ => ?_)
                    obtain ⟨rfl, hq246⟩ := hw244
                    have hP := hP.trans hq246 (by intro g h; simp_all)
                    obtain ⟨y249, ey250⟩ : ∃ y : Int32, y = j + (1) := ⟨_, rfl⟩
                    obtain ⟨k251, hk252, b253, b254⟩ := hq_add (j) (1)
                    rw [← ey250] at hk252 b253 b254
                    have hk252 : (y249).toInt = (j).toInt + (1) + k251 * 4294967296 := hk252
                    refine lv_iinc (v := y249) (lv' := [(8, .int (y249)), (7, .int (i)), (6, .ref (u85)), (5, .int (r4)), (0, .ref (t)), (1, .ref (u)), (2, .int (v)), (3, .int (te)), (4, .int (pe))]) hx hb dX6_makeAt_167 hl (k := 0) rfl (by rw [ey250]; rfl) (by decide) rfl (fun ls hl => ?_)
                    refine lv_goto (tgt := 131) hx hb dX6_makeAt_170 (by decide) ?_
                    exact ih131 _ (by omega) _ _ _ ls (y249) rfl hZ hP (by omega) (by omega) (lv_sub hl [0, 1, 2, 3, 4, 5, 6, 7, 8] rfl)
                  · refine W.eq (g2 := F0 m 164 ls [.ref (u240), .null, .int (r4), .ref (t)]) rfl ?_
                    have hu241 := hr238 u240 rfl
                    have fx261 : V233 (t) = some (.inr (6, [.ref (u192), .int (z196), .ref (u193), .ref (u194), .ref (u195)])) := (hq237.2 (t) _ h_t rfl).trans (fx232)
                    refine hp_callv (hp_runV (As := [.int (r4), .null, .ref (u240)]) (rest := []) hx hb hml hown hts (t_X6_join_nr l D cs B G  V233 n hP.1  (t) h_t (r4) (u240) hu241 ) hZ fx261 cv_X6_69 rfl rfl ⟨Nat.le_of_ble_eq_true rfl, Nat.le_of_ble_eq_true rfl⟩ rfl hl.1 rfl (Nat.le_of_ble_eq_true rfl) dX6_makeAt_164 ⟨(Nat.le_of_ble_eq_true rfl), (Nat.le_of_ble_eq_true rfl)⟩) hZ (fun V255 n256 _ _ hw257 hZ => ?_)
                    obtain ⟨rfl, hq259⟩ := hw257
                    have hP := hP.trans hq259 (by intro g h; simp_all)
                    obtain ⟨y262, ey263⟩ : ∃ y : Int32, y = j + (1) := ⟨_, rfl⟩
                    obtain ⟨k264, hk265, b266, b267⟩ := hq_add (j) (1)
                    rw [← ey263] at hk265 b266 b267
                    have hk265 : (y262).toInt = (j).toInt + (1) + k264 * 4294967296 := hk265
                    refine lv_iinc (v := y262) (lv' := [(8, .int (y262)), (7, .int (i)), (6, .ref (u85)), (5, .int (r4)), (0, .ref (t)), (1, .ref (u)), (2, .int (v)), (3, .int (te)), (4, .int (pe))]) hx hb dX6_makeAt_167 hl (k := 0) rfl (by rw [ey263]; rfl) (by decide) rfl (fun ls hl => ?_)
                    refine lv_goto (tgt := 131) hx hb dX6_makeAt_170 (by decide) ?_
                    exact ih131 _ (by omega) _ _ _ ls (y262) rfl hZ hP (by omega) (by omega) (lv_sub hl [0, 1, 2, 3, 4, 5, 6, 7, 8] rfl)
                · refine W.eq (g2 := F0 m 155 ls [.ref (u230), .int (r4), .ref (t)]) rfl ?_
                  have hu231 := hr222 u230 rfl
                  refine lv_aload_n hx hb dX6_makeAt_155 rfl (lv_at hl 4 rfl) ?_
                  have fx268 : V217 (t) = some (.inr (6, [.ref (u192), .int (z196), .ref (u193), .ref (u194), .ref (u195)])) := (hq221.2 (t) _ h_t rfl).trans (eV191)
                  refine hp_get (v := .ref (u194)) hx hb hts hown hZ fx268 fl_X6_23 rfl dX6_makeAt_156 ?_
                  refine lv_iload hx hb dX6_makeAt_159 (lv_at hl 0 rfl) ?_
                  have fx275 : V217 (u194) = some (.inr (3, [.ref (u204), .int (z205)])) := (hq221.2 (u194) _ hu199 rfl).trans (eV203)
                  refine hp_callq (hp_runV (As := [.int (j)]) (rest := [.ref (u230), .int (r4), .ref (t)]) hx hb hml hown hts (t_X3_get l D cs B G  V217 n hP.1 2 (u194) hu199 (j) ) hZ fx275 cv_X6_65 rfl rfl ⟨Nat.le_of_ble_eq_true rfl, Nat.le_of_ble_eq_true rfl⟩ rfl hl.1 rfl (Nat.le_of_ble_eq_true rfl) dX6_makeAt_161 ⟨(Nat.le_of_ble_eq_true rfl), (Nat.le_of_ble_eq_true rfl)⟩) hZ (fun r272 V269 n270 _ _ hw271 hZ => ?_)
                  obtain ⟨rfl, hq273, hr274⟩ := hw271
                  have hP := hP.trans hq273 (fun _ _ => rfl)
                  rcases r272 with _ | u276
                  · refine W.eq (g2 := F0 m 164 ls [.null, .ref (u230), .int (r4), .ref (t)]) rfl ?_
                    have fx284 : V269 (t) = some (.inr (6, [.ref (u192), .int (z196), .ref (u193), .ref (u194), .ref (u195)])) := (hq273.2 (t) _ h_t rfl).trans (fx268)
                    refine hp_callv (hp_runV (As := [.int (r4), .ref (u230), .null]) (rest := []) hx hb hml hown hts (t_X6_join_rn l D cs B G  V269 n hP.1  (t) h_t (r4) (u230) hu231 ) hZ fx284 cv_X6_69 rfl rfl ⟨Nat.le_of_ble_eq_true rfl, Nat.le_of_ble_eq_true rfl⟩ rfl hl.1 rfl (Nat.le_of_ble_eq_true rfl) dX6_makeAt_164 ⟨(Nat.le_of_ble_eq_true rfl), (Nat.le_of_ble_eq_true rfl)⟩) hZ (fun V278 n279 _ _ hw280 hZ => ?_)
                    obtain ⟨rfl, hq282⟩ := hw280
                    have hP := hP.trans hq282 (by intro g h; simp_all)
                    obtain ⟨y285, ey286⟩ : ∃ y : Int32, y = j + (1) := ⟨_, rfl⟩
                    obtain ⟨k287, hk288, b289, b290⟩ := hq_add (j) (1)
                    rw [← ey286] at hk288 b289 b290
                    have hk288 : (y285).toInt = (j).toInt + (1) + k287 * 4294967296 := hk288
                    refine lv_iinc (v := y285) (lv' := [(8, .int (y285)), (7, .int (i)), (6, .ref (u85)), (5, .int (r4)), (0, .ref (t)), (1, .ref (u)), (2, .int (v)), (3, .int (te)), (4, .int (pe))]) hx hb dX6_makeAt_167 hl (k := 0) rfl (by rw [ey286]; rfl) (by decide) rfl (fun ls hl => ?_)
                    refine lv_goto (tgt := 131) hx hb dX6_makeAt_170 (by decide) ?_
                    exact ih131 _ (by omega) _ _ _ ls (y285) rfl hZ hP (by omega) (by omega) (lv_sub hl [0, 1, 2, 3, 4, 5, 6, 7, 8] rfl)
                  · refine W.eq (g2 := F0 m 164 ls [.ref (u276), .ref (u230), .int (r4), .ref (t)]) rfl ?_
                    have hu277 := hr274 u276 rfl
                    have fx297 : V269 (t) = some (.inr (6, [.ref (u192), .int (z196), .ref (u193), .ref (u194), .ref (u195)])) := (hq273.2 (t) _ h_t rfl).trans (fx268)
                    refine hp_callv (hp_runV (As := [.int (r4), .ref (u230), .ref (u276)]) (rest := []) hx hb hml hown hts (t_X6_join_rr l D cs B G  V269 n hP.1  (t) h_t (r4) (u230) hu231 (u276) hu277 ) hZ fx297 cv_X6_69 rfl rfl ⟨Nat.le_of_ble_eq_true rfl, Nat.le_of_ble_eq_true rfl⟩ rfl hl.1 rfl (Nat.le_of_ble_eq_true rfl) dX6_makeAt_164 ⟨(Nat.le_of_ble_eq_true rfl), (Nat.le_of_ble_eq_true rfl)⟩) hZ (fun V291 n292 _ _ hw293 hZ => ?_)
                    obtain ⟨rfl, hq295⟩ := hw293
                    have hP := hP.trans hq295 (by intro g h; simp_all)
                    obtain ⟨y298, ey299⟩ : ∃ y : Int32, y = j + (1) := ⟨_, rfl⟩
                    obtain ⟨k300, hk301, b302, b303⟩ := hq_add (j) (1)
                    rw [← ey299] at hk301 b302 b303
                    have hk301 : (y298).toInt = (j).toInt + (1) + k300 * 4294967296 := hk301
                    refine lv_iinc (v := y298) (lv' := [(8, .int (y298)), (7, .int (i)), (6, .ref (u85)), (5, .int (r4)), (0, .ref (t)), (1, .ref (u)), (2, .int (v)), (3, .int (te)), (4, .int (pe))]) hx hb dX6_makeAt_167 hl (k := 0) rfl (by rw [ey299]; rfl) (by decide) rfl (fun ls hl => ?_)
                    refine lv_goto (tgt := 131) hx hb dX6_makeAt_170 (by decide) ?_
                    exact ih131 _ (by omega) _ _ _ ls (y298) rfl hZ hP (by omega) (by omega) (lv_sub hl [0, 1, 2, 3, 4, 5, 6, 7, 8] rfl)
      · have c79 : ¬ (r74).toInt = (-1 : Int) := fun h9 => c79 (hq_eqi.mpr h9)
        refine lv_aload_n hx hb dX6_makeAt_46 rfl (lv_at hl 1 rfl) ?_
        refine lv_aload_n hx hb dX6_makeAt_47 rfl (lv_at hl 2 rfl) ?_
        refine lv_aload_n hx hb dX6_makeAt_48 rfl (lv_at hl 1 rfl) ?_
        obtain ⟨u305, u306, u307, u308, z309, eV304, hu310, hu311, hu312, hu313, h314, h315⟩ := hq_o11 hP.1 h_t
        refine hp_get (v := .ref (u305)) hx hb hts hown hZ eV304 fl_X6_14 rfl dX6_makeAt_49 ?_
        refine lv_iload_n hx hb dX6_makeAt_52 rfl (lv_at hl 3 rfl) ?_
        refine lv_iload_n hx hb dX6_makeAt_53 rfl (lv_at hl 4 rfl) ?_
        refine lv_iload hx hb dX6_makeAt_54 (lv_at hl 5 rfl) ?_
        refine hp_callv (hp_runV (As := [.ref (u), .ref (u305), .int (v), .int (te), .int (pe)]) (rest := []) hx hb hml hown hts (t_X6_makePlain l D cs B G  V71 n hP.1 b 4 (t) h_t (u) h_u (u305) hu310 (v) (te) (pe) (by omega) (by omega)) hZ eV304 cv_X6_39 rfl rfl ⟨Nat.le_of_ble_eq_true rfl, Nat.le_of_ble_eq_true rfl⟩ rfl hl.1 rfl (Nat.le_of_ble_eq_true rfl) dX6_makeAt_56 ⟨(Nat.le_of_ble_eq_true rfl), (Nat.le_of_ble_eq_true rfl)⟩) hZ (fun V316 n317 _ _ hw318 hZ => ?_)
        obtain ⟨rfl, hq320⟩ := hw318
        have hP := hP.trans hq320 (by intro g h; simp_all)
        exact hp_vret hx hb hr hlocks hZ ⟨rfl, hP⟩ dX6_makeAt_59

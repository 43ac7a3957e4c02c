set_option maxHeartbeats 4000000 in
set_option maxRecDepth 100000 in
theorem t_X6_join_rr (l : Launch) (D : va_G) (cs : Nat → ClassId) (B : Nat) (G : hq_G) (V : hp_V) (n : Nat) (hI : hq_I cs G V) (t : Nat) (h_t : G t = some (11, 0, 0, 0)) (k : Int32) (f1 : Nat) (h_f1 : G f1 = some (7, 0, 0, 0)) (f2 : Nat) (h_f2 : G f2 = some (7, 0, 0, 0)) : hp_M l yX6_join cX6_join 5 none ({ frames := 4, cells := 0, slots := 0, locals := 92 }) D cs B V n [.ref (t), .int (k), .ref (f1), .ref (f2)] (hp_QV D cs B (fun V' n' => n = n' ∧ hq_P cs G (fun g => g.1 == 5 || g.1 == 6 || g.1 == 7) V V')) 0 0 := by
  refine hp_walk (R0 := RX6) (by decide) rfl ?_ (Nat.le_of_ble_eq_true rfl)
  intro p e s m below meth c ls hx hb hr hts hown hlocks hin hml hZ hl
  have hP : hq_P cs G (fun g => g.1 == 5 || g.1 == 6 || g.1 == 7) V V := hq_P.rf hI
  have hl : lv_has ls 5 [(0, .ref (t)), (1, .int (k)), (2, .ref (f1)), (3, .ref (f2))] := hl
  have hb_k := hq_rng k
  refine lv_aload_n hx hb dX6_join_0 rfl (lv_at hl 0 rfl) ?_
  obtain ⟨u2, u3, u4, u5, z6, eV1, hu7, hu8, hu9, hu10, h11, h12⟩ := hq_o11 hP.1 h_t
  refine hp_get (v := .ref (u2)) hx hb hts hown hZ eV1 fl_X6_14 rfl dX6_join_1 ?_
  obtain ⟨u20, z21, eV19, hu22, h23, h24, h25⟩ := hq_o8 hP.1 hu7
  refine hp_callq (hp_runV (As := []) (rest := []) hx hb hml hown hts (t_X3_open l D cs B G  V n hP.1 4 (u2) hu7 ) hZ eV19 cv_X6_73 rfl rfl ⟨Nat.le_of_ble_eq_true rfl, Nat.le_of_ble_eq_true rfl⟩ rfl hl.1 rfl (Nat.le_of_ble_eq_true rfl) dX6_join_4 ⟨(Nat.le_of_ble_eq_true rfl), (Nat.le_of_ble_eq_true rfl)⟩) hZ (fun r16 V13 n14 _ _ hw15 hZ => ?_)
  obtain ⟨rfl, hq17, hr18⟩ := hw15
  have hP := hP.trans hq17 (by intro g h; simp_all)
  rcases r16 with _ | u26
  · refine W.eq (g2 := F0 m 7 ls [.null]) rfl ?_
    refine lv_astoreN (lv' := [(4, .null), (0, .ref (t)), (1, .int (k)), (2, .ref (f1)), (3, .ref (f2))]) hx hb dX6_join_7 hl (by decide) rfl (fun ls hl => ?_)
    refine lv_aloadN hx hb dX6_join_9 (lv_at hl 0 rfl) ?_
    refine lv_ifnullN (tgt := 22) hx hb dX6_join_11 (by decide) ?_
    exact hp_vret hx hb hr hlocks hZ ⟨rfl, hP⟩ dX6_join_22
  · refine W.eq (g2 := F0 m 7 ls [.ref (u26)]) rfl ?_
    have hu27 := hr18 u26 rfl
    refine lv_astore (lv' := [(4, .ref (u26)), (0, .ref (t)), (1, .int (k)), (2, .ref (f1)), (3, .ref (f2))]) hx hb dX6_join_7 hl (by decide) rfl (fun ls hl => ?_)
    refine lv_aload hx hb dX6_join_9 (lv_at hl 0 rfl) ?_
    refine lv_ifnull hx hb dX6_join_11 ?_
    refine lv_aload_n hx hb dX6_join_14 rfl (lv_at hl 3 rfl) ?_
    refine lv_ifnull hx hb dX6_join_15 ?_
    refine lv_aload_n hx hb dX6_join_18 rfl (lv_at hl 4 rfl) ?_
    refine lv_ifnonnull (tgt := 23) hx hb dX6_join_19 (by decide) ?_
    refine lv_aload hx hb dX6_join_23 (lv_at hl 0 rfl) ?_
    refine lv_iload_n hx hb dX6_join_25 rfl (lv_at hl 2 rfl) ?_
    obtain ⟨u35, u36, z37, eV34, hu38, hu39, h40, h41⟩ := hq_o7 hP.1 hu27
    refine hp_callv (hp_runV (As := [.int (k)]) (rest := []) hx hb hml hown hts (t_X2_addLine l D cs B G  V13 n hP.1  (u26) hu27 (k) ) hZ eV34 cv_X6_77 rfl rfl ⟨Nat.le_of_ble_eq_true rfl, Nat.le_of_ble_eq_true rfl⟩ rfl hl.1 rfl (Nat.le_of_ble_eq_true rfl) dX6_join_26 ⟨(Nat.le_of_ble_eq_true rfl), (Nat.le_of_ble_eq_true rfl)⟩) hZ (fun V28 n29 _ _ hw30 hZ => ?_)
    obtain ⟨rfl, hq32⟩ := hw30
    have hP := hP.trans hq32 (by intro g h; simp_all)
    refine lv_aload hx hb dX6_join_29 (lv_at hl 0 rfl) ?_
    refine lv_aload_n hx hb dX6_join_31 rfl (lv_at hl 3 rfl) ?_
    obtain ⟨u49, u50, z51, eV48, hu52, hu53, h54, h55⟩ := hq_o7 hP.1 hu27
    refine hp_callv (hp_runV (As := [.ref (f1)]) (rest := []) hx hb hml hown hts (t_X2_addRow l D cs B G  V28 n hP.1  (u26) hu27 (f1) h_f1 ) hZ eV48 cv_X6_82 rfl rfl ⟨Nat.le_of_ble_eq_true rfl, Nat.le_of_ble_eq_true rfl⟩ rfl hl.1 rfl (Nat.le_of_ble_eq_true rfl) dX6_join_32 ⟨(Nat.le_of_ble_eq_true rfl), (Nat.le_of_ble_eq_true rfl)⟩) hZ (fun V42 n43 _ _ hw44 hZ => ?_)
    obtain ⟨rfl, hq46⟩ := hw44
    have hP := hP.trans hq46 (by intro g h; simp_all)
    refine lv_aload hx hb dX6_join_35 (lv_at hl 0 rfl) ?_
    refine lv_aload_n hx hb dX6_join_37 rfl (lv_at hl 4 rfl) ?_
    obtain ⟨u63, u64, z65, eV62, hu66, hu67, h68, h69⟩ := hq_o7 hP.1 hu27
    refine hp_callv (hp_runV (As := [.ref (f2)]) (rest := []) hx hb hml hown hts (t_X2_addRow l D cs B G  V42 n hP.1  (u26) hu27 (f2) h_f2 ) hZ eV62 cv_X6_82 rfl rfl ⟨Nat.le_of_ble_eq_true rfl, Nat.le_of_ble_eq_true rfl⟩ rfl hl.1 rfl (Nat.le_of_ble_eq_true rfl) dX6_join_38 ⟨(Nat.le_of_ble_eq_true rfl), (Nat.le_of_ble_eq_true rfl)⟩) hZ (fun V56 n57 _ _ hw58 hZ => ?_)
    obtain ⟨rfl, hq60⟩ := hw58
    have hP := hP.trans hq60 (by intro g h; simp_all)
    refine lv_aload hx hb dX6_join_41 (lv_at hl 0 rfl) ?_
    obtain ⟨u71, u72, z73, eV70, hu74, hu75, h76, h77⟩ := hq_o7 hP.1 hu27
    refine hp_get (v := .ref (u71)) hx hb hts hown hZ eV70 fl_X6_86 rfl dX6_join_43 ?_
    refine lv_aload_n hx hb dX6_join_46 rfl (lv_at hl 3 rfl) ?_
    obtain ⟨u79, u80, z81, eV78, hu82, hu83, h84, h85⟩ := hq_o7 hP.1 h_f1
    refine hp_get (v := .ref (u79)) hx hb hts hown hZ eV78 fl_X6_86 rfl dX6_join_47 ?_
    obtain ⟨u93, z94, eV92, hu95, h96, h97, h98⟩ := hq_o0 hP.1 hu74
    refine hp_calli (hp_runV (As := [.ref (u79)]) (rest := []) hx hb hml hown hts (t_X9_addAll l D cs B G (fun g => g.1 == 5) V56 n hP.1 30 30 (u71) hu74 (u79) hu82 rfl rfl) hZ eV92 cv_X6_89 rfl rfl ⟨Nat.le_of_ble_eq_true rfl, Nat.le_of_ble_eq_true rfl⟩ rfl hl.1 rfl (Nat.le_of_ble_eq_true rfl) dX6_join_50 ⟨(Nat.le_of_ble_eq_true rfl), (Nat.le_of_ble_eq_true rfl)⟩) hZ (fun r89 V86 n87 _ _ hw88 hZ => ?_)
    obtain ⟨rfl, hq90, hr91⟩ := hw88
    have hP := hP.trans hq90 (by intro g h; simp_all)
    have b99 := hq_rng r89
    refine lv_if_eq (tgt := 91) hx hb dX6_join_53 (by decide) (fun c100 => ?_) (fun c100 => ?_)
    · have c100 : (r89).toInt = (0 : Int) := hq_eqi.mp c100
      exact hp_vret hx hb hr hlocks hZ ⟨rfl, hP⟩ dX6_join_91
    · have c100 : ¬ (r89).toInt = (0 : Int) := fun h9 => c100 (hq_eqi.mpr h9)
      refine lv_aload hx hb dX6_join_56 (lv_at hl 0 rfl) ?_
      obtain ⟨u102, u103, z104, eV101, hu105, hu106, h107, h108⟩ := hq_o7 hP.1 hu27
      refine hp_get (v := .ref (u102)) hx hb hts hown hZ eV101 fl_X6_86 rfl dX6_join_58 ?_
      refine lv_bipush (v := 32) hx hb dX6_join_61 (by decide) ?_
      obtain ⟨u116, z117, eV115, hu118, h119, h120, h121⟩ := hq_o0 hP.1 hu105
      refine hp_calli (hp_runV (As := [.int (32)]) (rest := []) hx hb hml hown hts (t_X9_add l D cs B G (fun g => g.1 == 5) V86 n hP.1 30 (u102) hu105 (32) rfl rfl) hZ eV115 cv_X6_93 rfl rfl ⟨Nat.le_of_ble_eq_true rfl, Nat.le_of_ble_eq_true rfl⟩ rfl hl.1 rfl (Nat.le_of_ble_eq_true rfl) dX6_join_63 ⟨(Nat.le_of_ble_eq_true rfl), (Nat.le_of_ble_eq_true rfl)⟩) hZ (fun r112 V109 n110 _ _ hw111 hZ => ?_)
      obtain ⟨rfl, hq113, hr114⟩ := hw111
      have hP := hP.trans hq113 (by intro g h; simp_all)
      have b122 := hq_rng r112
      refine lv_if_eq (tgt := 91) hx hb dX6_join_66 (by decide) (fun c123 => ?_) (fun c123 => ?_)
      · have c123 : (r112).toInt = (0 : Int) := hq_eqi.mp c123
        exact hp_vret hx hb hr hlocks hZ ⟨rfl, hP⟩ dX6_join_91
      · have c123 : ¬ (r112).toInt = (0 : Int) := fun h9 => c123 (hq_eqi.mpr h9)
        refine lv_aload hx hb dX6_join_69 (lv_at hl 0 rfl) ?_
        obtain ⟨u125, u126, z127, eV124, hu128, hu129, h130, h131⟩ := hq_o7 hP.1 hu27
        refine hp_get (v := .ref (u125)) hx hb hts hown hZ eV124 fl_X6_86 rfl dX6_join_71 ?_
        refine lv_aload_n hx hb dX6_join_74 rfl (lv_at hl 4 rfl) ?_
        obtain ⟨u133, u134, z135, eV132, hu136, hu137, h138, h139⟩ := hq_o7 hP.1 h_f2
        refine hp_get (v := .ref (u133)) hx hb hts hown hZ eV132 fl_X6_86 rfl dX6_join_75 ?_
        obtain ⟨u147, z148, eV146, hu149, h150, h151, h152⟩ := hq_o0 hP.1 hu128
        refine hp_calli (hp_runV (As := [.ref (u133)]) (rest := []) hx hb hml hown hts (t_X9_addAll l D cs B G (fun g => g.1 == 5) V109 n hP.1 30 30 (u125) hu128 (u133) hu136 rfl rfl) hZ eV146 cv_X6_89 rfl rfl ⟨Nat.le_of_ble_eq_true rfl, Nat.le_of_ble_eq_true rfl⟩ rfl hl.1 rfl (Nat.le_of_ble_eq_true rfl) dX6_join_78 ⟨(Nat.le_of_ble_eq_true rfl), (Nat.le_of_ble_eq_true rfl)⟩) hZ (fun r143 V140 n141 _ _ hw142 hZ => ?_)
        obtain ⟨rfl, hq144, hr145⟩ := hw142
        have hP := hP.trans hq144 (by intro g h; simp_all)
        have b153 := hq_rng r143
        refine lv_if_eq (tgt := 91) hx hb dX6_join_81 (by decide) (fun c154 => ?_) (fun c154 => ?_)
        · have c154 : (r143).toInt = (0 : Int) := hq_eqi.mp c154
          exact hp_vret hx hb hr hlocks hZ ⟨rfl, hP⟩ dX6_join_91
        · have c154 : ¬ (r143).toInt = (0 : Int) := fun h9 => c154 (hq_eqi.mpr h9)
          refine lv_aload_n hx hb dX6_join_84 rfl (lv_at hl 1 rfl) ?_
          have fx155 : V140 (t) = some (.inr (6, [.ref (u2), .int (z6), .ref (u3), .ref (u4), .ref (u5)])) := (hq144.2 (t) _ h_t rfl).trans ((hq113.2 (t) _ h_t rfl).trans ((hq90.2 (t) _ h_t rfl).trans ((hq60.2 (t) _ h_t rfl).trans ((hq46.2 (t) _ h_t rfl).trans ((hq32.2 (t) _ h_t rfl).trans ((hq17.2 (t) _ h_t rfl).trans (eV1)))))))
          refine hp_get (v := .ref (u2)) hx hb hts hown hZ fx155 fl_X6_14 rfl dX6_join_85 ?_
          have fx162 : V140 (u2) = some (.inr (3, [.ref (u20), .int (z21)])) := (hq144.2 (u2) _ hu7 rfl).trans ((hq113.2 (u2) _ hu7 rfl).trans ((hq90.2 (u2) _ hu7 rfl).trans ((hq60.2 (u2) _ hu7 rfl).trans ((hq46.2 (u2) _ hu7 rfl).trans ((hq32.2 (u2) _ hu7 rfl).trans ((hq17.2 (u2) _ hu7 rfl).trans (eV19)))))))
          refine hp_callv (hp_runV (As := []) (rest := []) hx hb hml hown hts (t_X3_keep l D cs B G  V140 n hP.1 4 (u2) hu7 ) hZ fx162 cv_X6_97 rfl rfl ⟨Nat.le_of_ble_eq_true rfl, Nat.le_of_ble_eq_true rfl⟩ rfl hl.1 rfl (Nat.le_of_ble_eq_true rfl) dX6_join_88 ⟨(Nat.le_of_ble_eq_true rfl), (Nat.le_of_ble_eq_true rfl)⟩) hZ (fun V156 n157 _ _ hw158 hZ => ?_)
          obtain ⟨rfl, hq160⟩ := hw158
          have hP := hP.trans hq160 (by intro g h; simp_all)
          exact hp_vret hx hb hr hlocks hZ ⟨rfl, hP⟩ dX6_join_91

set_option maxHeartbeats 4000000 in
set_option maxRecDepth 100000 in
theorem t_X6_join_rn (l : Launch) (D : va_G) (cs : Nat → ClassId) (B : Nat) (G : hq_G) (V : hp_V) (n : Nat) (hI : hq_I cs G V) (t : Nat) (h_t : G t = some (11, 0, 0, 0)) (k : Int32) (f1 : Nat) (h_f1 : G f1 = some (7, 0, 0, 0)) : hp_M l yX6_join cX6_join 5 none ({ frames := 4, cells := 0, slots := 0, locals := 92 }) D cs B V n [.ref (t), .int (k), .ref (f1), .null] (hp_QV D cs B (fun V' n' => n = n' ∧ hq_P cs G (fun g => g.1 == 5 || g.1 == 6 || g.1 == 7) V V')) 0 0 := by
  refine hp_walk (R0 := RX6) (by decide) rfl ?_ (Nat.le_of_ble_eq_true rfl)
  intro p e s m below meth c ls hx hb hr hts hown hlocks hin hml hZ hl
  have hP : hq_P cs G (fun g => g.1 == 5 || g.1 == 6 || g.1 == 7) V V := hq_P.rf hI
  have hl : lv_has ls 5 [(0, .ref (t)), (1, .int (k)), (2, .ref (f1)), (3, .null)] := hl
  have hb_k := hq_rng k
  refine lv_aload_n hx hb dX6_join_0 rfl (lv_at hl 0 rfl) ?_
  obtain ⟨u2, u3, u4, u5, z6, eV1, hu7, hu8, hu9, hu10, h11, h12⟩ := hq_o11 hP.1 h_t
  refine hp_get (v := .ref (u2)) hx hb hts hown hZ eV1 fl_X6_14 rfl dX6_join_1 ?_
  obtain ⟨u20, z21, eV19, hu22, h23, h24, h25⟩ := hq_o8 hP.1 hu7
  refine hp_callq (hp_runV (As := []) (rest := []) hx hb hml hown hts (t_X3_open l D cs B G  V n hP.1 4 (u2) hu7 ) hZ eV19 cv_X6_73 rfl rfl ⟨Nat.le_of_ble_eq_true rfl, Nat.le_of_ble_eq_true rfl⟩ rfl hl.1 rfl (Nat.le_of_ble_eq_true rfl) dX6_join_4 ⟨(Nat.le_of_ble_eq_true rfl), (Nat.le_of_ble_eq_true rfl)⟩) hZ (fun r16 V13 n14 _ _ hw15 hZ => ?_)
  obtain ⟨rfl, hq17, hr18⟩ := hw15
  have hP := hP.trans hq17 (by intro g h; simp_all)
  rcases r16 with _ | u26
  · refine W.eq (g2 := F0 m 7 ls [.null]) rfl ?_
    refine lv_astoreN (lv' := [(4, .null), (0, .ref (t)), (1, .int (k)), (2, .ref (f1)), (3, .null)]) hx hb dX6_join_7 hl (by decide) rfl (fun ls hl => ?_)
    refine lv_aloadN hx hb dX6_join_9 (lv_at hl 0 rfl) ?_
    refine lv_ifnullN (tgt := 22) hx hb dX6_join_11 (by decide) ?_
    exact hp_vret hx hb hr hlocks hZ ⟨rfl, hP⟩ dX6_join_22
  · refine W.eq (g2 := F0 m 7 ls [.ref (u26)]) rfl ?_
    have hu27 := hr18 u26 rfl
    refine lv_astore (lv' := [(4, .ref (u26)), (0, .ref (t)), (1, .int (k)), (2, .ref (f1)), (3, .null)]) hx hb dX6_join_7 hl (by decide) rfl (fun ls hl => ?_)
    refine lv_aload hx hb dX6_join_9 (lv_at hl 0 rfl) ?_
    refine lv_ifnull hx hb dX6_join_11 ?_
    refine lv_aload_n hx hb dX6_join_14 rfl (lv_at hl 3 rfl) ?_
    refine lv_ifnull hx hb dX6_join_15 ?_
    refine lv_aload_nN hx hb dX6_join_18 rfl (lv_at hl 4 rfl) ?_
    refine lv_ifnonnullN hx hb dX6_join_19 ?_
    exact hp_vret hx hb hr hlocks hZ ⟨rfl, hP⟩ dX6_join_22

set_option maxHeartbeats 4000000 in
set_option maxRecDepth 100000 in
theorem t_X6_join_nr (l : Launch) (D : va_G) (cs : Nat → ClassId) (B : Nat) (G : hq_G) (V : hp_V) (n : Nat) (hI : hq_I cs G V) (t : Nat) (h_t : G t = some (11, 0, 0, 0)) (k : Int32) (f2 : Nat) (h_f2 : G f2 = some (7, 0, 0, 0)) : hp_M l yX6_join cX6_join 5 none ({ frames := 4, cells := 0, slots := 0, locals := 92 }) D cs B V n [.ref (t), .int (k), .null, .ref (f2)] (hp_QV D cs B (fun V' n' => n = n' ∧ hq_P cs G (fun g => g.1 == 5 || g.1 == 6 || g.1 == 7) V V')) 0 0 := by
  refine hp_walk (R0 := RX6) (by decide) rfl ?_ (Nat.le_of_ble_eq_true rfl)
  intro p e s m below meth c ls hx hb hr hts hown hlocks hin hml hZ hl
  have hP : hq_P cs G (fun g => g.1 == 5 || g.1 == 6 || g.1 == 7) V V := hq_P.rf hI
  have hl : lv_has ls 5 [(0, .ref (t)), (1, .int (k)), (2, .null), (3, .ref (f2))] := hl
  have hb_k := hq_rng k
  refine lv_aload_n hx hb dX6_join_0 rfl (lv_at hl 0 rfl) ?_
  obtain ⟨u2, u3, u4, u5, z6, eV1, hu7, hu8, hu9, hu10, h11, h12⟩ := hq_o11 hP.1 h_t
  refine hp_get (v := .ref (u2)) hx hb hts hown hZ eV1 fl_X6_14 rfl dX6_join_1 ?_
  obtain ⟨u20, z21, eV19, hu22, h23, h24, h25⟩ := hq_o8 hP.1 hu7
  refine hp_callq (hp_runV (As := []) (rest := []) hx hb hml hown hts (t_X3_open l D cs B G  V n hP.1 4 (u2) hu7 ) hZ eV19 cv_X6_73 rfl rfl ⟨Nat.le_of_ble_eq_true rfl, Nat.le_of_ble_eq_true rfl⟩ rfl hl.1 rfl (Nat.le_of_ble_eq_true rfl) dX6_join_4 ⟨(Nat.le_of_ble_eq_true rfl), (Nat.le_of_ble_eq_true rfl)⟩) hZ (fun r16 V13 n14 _ _ hw15 hZ => ?_)
  obtain ⟨rfl, hq17, hr18⟩ := hw15
  have hP := hP.trans hq17 (by intro g h; simp_all)
  rcases r16 with _ | u26
  · refine W.eq (g2 := F0 m 7 ls [.null]) rfl ?_
    refine lv_astoreN (lv' := [(4, .null), (0, .ref (t)), (1, .int (k)), (2, .null), (3, .ref (f2))]) hx hb dX6_join_7 hl (by decide) rfl (fun ls hl => ?_)
    refine lv_aloadN hx hb dX6_join_9 (lv_at hl 0 rfl) ?_
    refine lv_ifnullN (tgt := 22) hx hb dX6_join_11 (by decide) ?_
    exact hp_vret hx hb hr hlocks hZ ⟨rfl, hP⟩ dX6_join_22
  · refine W.eq (g2 := F0 m 7 ls [.ref (u26)]) rfl ?_
    have hu27 := hr18 u26 rfl
    refine lv_astore (lv' := [(4, .ref (u26)), (0, .ref (t)), (1, .int (k)), (2, .null), (3, .ref (f2))]) hx hb dX6_join_7 hl (by decide) rfl (fun ls hl => ?_)
    refine lv_aload hx hb dX6_join_9 (lv_at hl 0 rfl) ?_
    refine lv_ifnull hx hb dX6_join_11 ?_
    refine lv_aload_nN hx hb dX6_join_14 rfl (lv_at hl 3 rfl) ?_
    refine lv_ifnullN (tgt := 22) hx hb dX6_join_15 (by decide) ?_
    exact hp_vret hx hb hr hlocks hZ ⟨rfl, hP⟩ dX6_join_22

set_option maxHeartbeats 4000000 in
set_option maxRecDepth 100000 in
theorem t_X6_join_nn (l : Launch) (D : va_G) (cs : Nat → ClassId) (B : Nat) (G : hq_G) (V : hp_V) (n : Nat) (hI : hq_I cs G V) (t : Nat) (h_t : G t = some (11, 0, 0, 0)) (k : Int32) : hp_M l yX6_join cX6_join 5 none ({ frames := 4, cells := 0, slots := 0, locals := 92 }) D cs B V n [.ref (t), .int (k), .null, .null] (hp_QV D cs B (fun V' n' => n = n' ∧ hq_P cs G (fun g => g.1 == 5 || g.1 == 6 || g.1 == 7) V V')) 0 0 := by
  refine hp_walk (R0 := RX6) (by decide) rfl ?_ (Nat.le_of_ble_eq_true rfl)
  intro p e s m below meth c ls hx hb hr hts hown hlocks hin hml hZ hl
  have hP : hq_P cs G (fun g => g.1 == 5 || g.1 == 6 || g.1 == 7) V V := hq_P.rf hI
  have hl : lv_has ls 5 [(0, .ref (t)), (1, .int (k)), (2, .null), (3, .null)] := hl
  have hb_k := hq_rng k
  refine lv_aload_n hx hb dX6_join_0 rfl (lv_at hl 0 rfl) ?_
  obtain ⟨u2, u3, u4, u5, z6, eV1, hu7, hu8, hu9, hu10, h11, h12⟩ := hq_o11 hP.1 h_t
  refine hp_get (v := .ref (u2)) hx hb hts hown hZ eV1 fl_X6_14 rfl dX6_join_1 ?_
  obtain ⟨u20, z21, eV19, hu22, h23, h24, h25⟩ := hq_o8 hP.1 hu7
  refine hp_callq (hp_runV (As := []) (rest := []) hx hb hml hown hts (t_X3_open l D cs B G  V n hP.1 4 (u2) hu7 ) hZ eV19 cv_X6_73 rfl rfl ⟨Nat.le_of_ble_eq_true rfl, Nat.le_of_ble_eq_true rfl⟩ rfl hl.1 rfl (Nat.le_of_ble_eq_true rfl) dX6_join_4 ⟨(Nat.le_of_ble_eq_true rfl), (Nat.le_of_ble_eq_true rfl)⟩) hZ (fun r16 V13 n14 _ _ hw15 hZ => ?_)
  obtain ⟨rfl, hq17, hr18⟩ := hw15
  have hP := hP.trans hq17 (by intro g h; simp_all)
  rcases r16 with _ | u26
  · refine W.eq (g2 := F0 m 7 ls [.null]) rfl ?_
    refine lv_astoreN (lv' := [(4, .null), (0, .ref (t)), (1, .int (k)), (2, .null), (3, .null)]) hx hb dX6_join_7 hl (by decide) rfl (fun ls hl => ?_)
    refine lv_aloadN hx hb dX6_join_9 (lv_at hl 0 rfl) ?_
    refine lv_ifnullN (tgt := 22) hx hb dX6_join_11 (by decide) ?_
    exact hp_vret hx hb hr hlocks hZ ⟨rfl, hP⟩ dX6_join_22
  · refine W.eq (g2 := F0 m 7 ls [.ref (u26)]) rfl ?_
    have hu27 := hr18 u26 rfl
    refine lv_astore (lv' := [(4, .ref (u26)), (0, .ref (t)), (1, .int (k)), (2, .null), (3, .null)]) hx hb dX6_join_7 hl (by decide) rfl (fun ls hl => ?_)
    refine lv_aload hx hb dX6_join_9 (lv_at hl 0 rfl) ?_
    refine lv_ifnull hx hb dX6_join_11 ?_
    refine lv_aload_nN hx hb dX6_join_14 rfl (lv_at hl 3 rfl) ?_
    refine lv_ifnullN (tgt := 22) hx hb dX6_join_15 (by decide) ?_
    exact hp_vret hx hb hr hlocks hZ ⟨rfl, hP⟩ dX6_join_22

set_option maxHeartbeats 4000000 in
set_option maxRecDepth 100000 in
theorem t_X6_makeAt (l : Launch) (D : va_G) (cs : Nat → ClassId) (B : Nat) (G : hq_G) (V : hp_V) (n : Nat) (hI : hq_I cs G V) (b : Nat) (t : Nat) (h_t : G t = some (11, 0, 0, 0)) (u : Nat) (h_u : G u = some (6, b, 0, 0)) (v : Int32) (te : Int32) (pe : Int32) (hv0 : 0 ≤ v.toInt) (hv1 : v.toInt < 30) (hJ : hq_J cs V u) : hp_M l yX6_makeAt cX6_makeAt 9 none ({ frames := 6, cells := 0, slots := 0, locals := 149 }) D cs B V n [.ref (t), .ref (u), .int (v), .int (te), .int (pe)] (hp_QV D cs B (fun V' n' => n = n' ∧ hq_P cs G (fun g => g.1 == 5 || g.1 == 6 || g.1 == 7) V V')) 0 0 := by
  refine hp_walk (R0 := RX6) (by decide) rfl ?_ (Nat.le_of_ble_eq_true rfl)
  intro p e s m below meth c ls hx hb hr hts hown hlocks hin hml hZ hl
  have hP : hq_P cs G (fun g => g.1 == 5 || g.1 == 6 || g.1 == 7) V V := hq_P.rf hI
  have hl : lv_has ls 9 [(0, .ref (t)), (1, .ref (u)), (2, .int (v)), (3, .int (te)), (4, .int (pe))] := hl
  have hb_v := hq_rng v
  have hb_te := hq_rng te
  have hb_pe := hq_rng pe
  refine lv_aload_n hx hb dX6_makeAt_0 rfl (lv_at hl 1 rfl) ?_
  refine lv_iconst (v := 3) hx hb dX6_makeAt_1 (by decide) ?_
  refine lv_iconst (v := 0) hx hb dX6_makeAt_2 (by decide) ?_
  refine lv_iload_n hx hb dX6_makeAt_3 rfl (lv_at hl 2 rfl) ?_
  refine lv_iload_n hx hb dX6_makeAt_4 rfl (lv_at hl 3 rfl) ?_
  refine lv_iload hx hb dX6_makeAt_5 (lv_at hl 4 rfl) ?_
  obtain ⟨u8, u9, u10, u11, z12, z13, z14, eV7, hu15, hu16, hu17, hu18, ⟨h19, h20⟩, ⟨h21, h22⟩, h23, h24⟩ := hq_o6 hP.1 h_u
  refine hp_calli (hp_runV (As := [.int (3), .int (0), .int (v), .int (te), .int (pe)]) (rest := []) hx hb hml hown hts (t_X0_nextFitting l D cs B G  V n hP.1 b (u) h_u (3) (0) (v) (te) (pe) (by first | omega | decide) (by omega) (by omega)) hZ eV7 cv_X6_33 rfl rfl ⟨Nat.le_of_ble_eq_true rfl, Nat.le_of_ble_eq_true rfl⟩ rfl hl.1 rfl (Nat.le_of_ble_eq_true rfl) dX6_makeAt_7 ⟨(Nat.le_of_ble_eq_true rfl), (Nat.le_of_ble_eq_true rfl)⟩) hZ (fun r4 V1 n2 _ _ hw3 hZ => ?_)
  obtain ⟨rfl, hq5, hr6⟩ := hw3
  have hP := hP.trans hq5 (fun _ _ => rfl)
  have b25 := hq_rng r4
  obtain ⟨hcr, hcl⟩ := hr6
  refine lv_istore (lv' := [(5, .int (r4)), (0, .ref (t)), (1, .ref (u)), (2, .int (v)), (3, .int (te)), (4, .int (pe))]) hx hb dX6_makeAt_10 hl (by decide) rfl (fun ls hl => ?_)
  refine lv_iload hx hb dX6_makeAt_12 (lv_at hl 0 rfl) ?_
  refine lv_iconst (v := -1) hx hb dX6_makeAt_14 (by decide) ?_
  refine lv_icmp_eq (tgt := 46) hx hb dX6_makeAt_15 (by decide) (fun c26 => ?_) (fun c26 => ?_)
  · have c26 : (r4).toInt = (-1 : Int) := hq_eqi.mp c26
    refine lv_aload_n hx hb dX6_makeAt_46 rfl (lv_at hl 1 rfl) ?_
    refine lv_aload_n hx hb dX6_makeAt_47 rfl (lv_at hl 2 rfl) ?_
    refine lv_aload_n hx hb dX6_makeAt_48 rfl (lv_at hl 1 rfl) ?_
    obtain ⟨u28, u29, u30, u31, z32, eV27, hu33, hu34, hu35, hu36, h37, h38⟩ := hq_o11 hP.1 h_t
    refine hp_get (v := .ref (u28)) hx hb hts hown hZ eV27 fl_X6_14 rfl dX6_makeAt_49 ?_
    refine lv_iload_n hx hb dX6_makeAt_52 rfl (lv_at hl 3 rfl) ?_
    refine lv_iload_n hx hb dX6_makeAt_53 rfl (lv_at hl 4 rfl) ?_
    refine lv_iload hx hb dX6_makeAt_54 (lv_at hl 5 rfl) ?_
    refine hp_callv (hp_runV (As := [.ref (u), .ref (u28), .int (v), .int (te), .int (pe)]) (rest := []) hx hb hml hown hts (t_X6_makePlain l D cs B G  V1 n hP.1 b 4 (t) h_t (u) h_u (u28) hu33 (v) (te) (pe) (by omega) (by omega)) hZ eV27 cv_X6_39 rfl rfl ⟨Nat.le_of_ble_eq_true rfl, Nat.le_of_ble_eq_true rfl⟩ rfl hl.1 rfl (Nat.le_of_ble_eq_true rfl) dX6_makeAt_56 ⟨(Nat.le_of_ble_eq_true rfl), (Nat.le_of_ble_eq_true rfl)⟩) hZ (fun V39 n40 _ _ hw41 hZ => ?_)
    obtain ⟨rfl, hq43⟩ := hw41
    have hP := hP.trans hq43 (by intro g h; simp_all)
    exact hp_vret hx hb hr hlocks hZ ⟨rfl, hP⟩ dX6_makeAt_59
  · have c26 : ¬ (r4).toInt = (-1 : Int) := fun h9 => c26 (hq_eqi.mpr h9)
    refine lv_aload_n hx hb dX6_makeAt_18 rfl (lv_at hl 2 rfl) ?_
    refine lv_iconst (v := 5) hx hb dX6_makeAt_19 (by decide) ?_
    refine lv_iconst (v := 0) hx hb dX6_makeAt_20 (by decide) ?_
    refine lv_iload_n hx hb dX6_makeAt_21 rfl (lv_at hl 3 rfl) ?_
    refine lv_iload_n hx hb dX6_makeAt_22 rfl (lv_at hl 4 rfl) ?_
    refine lv_iload hx hb dX6_makeAt_23 (lv_at hl 5 rfl) ?_
    have fx51 : V1 (u) = some (.inr (0, [.ref (u8), .int (z12), .ref (u9), .ref (u10), .int (z13), .ref (u11), .int (z14)])) := (hq5.2 (u) _ h_u rfl).trans (eV7)
    refine hp_calli (hp_runV (As := [.int (5), .int (0), .int (v), .int (te), .int (pe)]) (rest := []) hx hb hml hown hts (t_X0_nextFitting l D cs B G  V1 n hP.1 b (u) h_u (5) (0) (v) (te) (pe) (by first | omega | decide) (by omega) (by omega)) hZ fx51 cv_X6_33 rfl rfl ⟨Nat.le_of_ble_eq_true rfl, Nat.le_of_ble_eq_true rfl⟩ rfl hl.1 rfl (Nat.le_of_ble_eq_true rfl) dX6_makeAt_25 ⟨(Nat.le_of_ble_eq_true rfl), (Nat.le_of_ble_eq_true rfl)⟩) hZ (fun r48 V45 n46 _ _ hw47 hZ => ?_)
    obtain ⟨rfl, hq49, hr50⟩ := hw47
    have hP := hP.trans hq49 (fun _ _ => rfl)
    have b52 := hq_rng r48
    refine lv_iconst (v := -1) hx hb dX6_makeAt_28 (by decide) ?_
    refine lv_icmp_ne (tgt := 46) hx hb dX6_makeAt_29 (by decide) (fun c53 => ?_) (fun c53 => ?_)
    · have c53 : ¬ (r48).toInt = (-1 : Int) := fun h9 => c53 (hq_eqi.mpr h9)
      refine lv_aload_n hx hb dX6_makeAt_46 rfl (lv_at hl 1 rfl) ?_
      refine lv_aload_n hx hb dX6_makeAt_47 rfl (lv_at hl 2 rfl) ?_
      refine lv_aload_n hx hb dX6_makeAt_48 rfl (lv_at hl 1 rfl) ?_
      obtain ⟨u55, u56, u57, u58, z59, eV54, hu60, hu61, hu62, hu63, h64, h65⟩ := hq_o11 hP.1 h_t
      refine hp_get (v := .ref (u55)) hx hb hts hown hZ eV54 fl_X6_14 rfl dX6_makeAt_49 ?_
      refine lv_iload_n hx hb dX6_makeAt_52 rfl (lv_at hl 3 rfl) ?_
      refine lv_iload_n hx hb dX6_makeAt_53 rfl (lv_at hl 4 rfl) ?_
      refine lv_iload hx hb dX6_makeAt_54 (lv_at hl 5 rfl) ?_
      refine hp_callv (hp_runV (As := [.ref (u), .ref (u55), .int (v), .int (te), .int (pe)]) (rest := []) hx hb hml hown hts (t_X6_makePlain l D cs B G  V45 n hP.1 b 4 (t) h_t (u) h_u (u55) hu60 (v) (te) (pe) (by omega) (by omega)) hZ eV54 cv_X6_39 rfl rfl ⟨Nat.le_of_ble_eq_true rfl, Nat.le_of_ble_eq_true rfl⟩ rfl hl.1 rfl (Nat.le_of_ble_eq_true rfl) dX6_makeAt_56 ⟨(Nat.le_of_ble_eq_true rfl), (Nat.le_of_ble_eq_true rfl)⟩) hZ (fun V66 n67 _ _ hw68 hZ => ?_)
      obtain ⟨rfl, hq70⟩ := hw68
      have hP := hP.trans hq70 (by intro g h; simp_all)
      exact hp_vret hx hb hr hlocks hZ ⟨rfl, hP⟩ dX6_makeAt_59
    · have c53 : (r48).toInt = (-1 : Int) := hq_eqi.mp c53
      refine lv_aload_n hx hb dX6_makeAt_32 rfl (lv_at hl 2 rfl) ?_
      refine lv_iconst (v := 4) hx hb dX6_makeAt_33 (by decide) ?_
      refine lv_iconst (v := 0) hx hb dX6_makeAt_34 (by decide) ?_
      refine lv_iload_n hx hb dX6_makeAt_35 rfl (lv_at hl 3 rfl) ?_
      refine lv_iload_n hx hb dX6_makeAt_36 rfl (lv_at hl 4 rfl) ?_
      refine lv_iload hx hb dX6_makeAt_37 (lv_at hl 5 rfl) ?_
      have fx78 : V45 (u) = some (.inr (0, [.ref (u8), .int (z12), .ref (u9), .ref (u10), .int (z13), .ref (u11), .int (z14)])) := (hq49.2 (u) _ h_u rfl).trans (fx51)
      refine hp_calli (hp_runV (As := [.int (4), .int (0), .int (v), .int (te), .int (pe)]) (rest := []) hx hb hml hown hts (t_X0_nextFitting l D cs B G  V45 n hP.1 b (u) h_u (4) (0) (v) (te) (pe) (by first | omega | decide) (by omega) (by omega)) hZ fx78 cv_X6_33 rfl rfl ⟨Nat.le_of_ble_eq_true rfl, Nat.le_of_ble_eq_true rfl⟩ rfl hl.1 rfl (Nat.le_of_ble_eq_true rfl) dX6_makeAt_39 ⟨(Nat.le_of_ble_eq_true rfl), (Nat.le_of_ble_eq_true rfl)⟩) hZ (fun r75 V72 n73 _ _ hw74 hZ => ?_)
      obtain ⟨rfl, hq76, hr77⟩ := hw74
      have hP := hP.trans hq76 (fun _ _ => rfl)
      have b79 := hq_rng r75
      refine lv_iconst (v := -1) hx hb dX6_makeAt_42 (by decide) ?_
      refine lv_icmp_eq (tgt := 60) hx hb dX6_makeAt_43 (by decide) (fun c80 => ?_) (fun c80 => ?_)
      · have c80 : (r75).toInt = (-1 : Int) := hq_eqi.mp c80
        refine lv_aload_n hx hb dX6_makeAt_60 rfl (lv_at hl 2 rfl) ?_
        have fx81 : V72 (u) = some (.inr (0, [.ref (u8), .int (z12), .ref (u9), .ref (u10), .int (z13), .ref (u11), .int (z14)])) := (hq76.2 (u) _ h_u rfl).trans (fx78)
        refine hp_get (v := .ref (u11)) hx hb hts hown hZ fx81 fl_X6_43 rfl dX6_makeAt_61 ?_
        refine lv_iload hx hb dX6_makeAt_64 (lv_at hl 0 rfl) ?_
        obtain ⟨hN84, g83, eV82, hf85, _⟩ := hq_o4 hP.1 hu18
        obtain ⟨u86, hx87, hu88⟩ := hf85 (r4 : Int32).toNatClampNeg (hq_ix (by omega) (by omega))
        have hu88 : G u86 = some (5, b, 0, 0) := hu88
        refine hp_aald (v := .ref (u86)) hx hb hZ 6 eV82 rfl (hq_in (by omega) (by omega)) (by rw [hx87]; rfl) dX6_makeAt_66 ?_
        refine lv_astore (lv' := [(6, .ref (u86)), (5, .int (r4)), (0, .ref (t)), (1, .ref (u)), (2, .int (v)), (3, .int (te)), (4, .int (pe))]) hx hb dX6_makeAt_67 hl (by decide) rfl (fun ls hl => ?_)
        obtain ⟨z90, z91, z92, z93, z94, z95, z96, z97, u98, u99, eV89, hu100, hu101, h102, h103⟩ := hq_o5 hP.1 hu88
        obtain ⟨k1, h1, hL1, hk1⟩ := hcl (by omega)
        have hL2 := hL1.keep hI h_u (hq_kp hP (by intro g h; simp [hq_lg] at h ⊢ <;> omega))
        obtain ⟨e1, e2⟩ := hL2.same fx81 eV82 hx87 eV89
        have hk3 : k1.toInt = 3 := hk1
        have hge := hJ _ _ _ hL1 hk3
        rw [← e2] at hge
        refine lv_aload_n hx hb dX6_makeAt_69 rfl (lv_at hl 2 rfl) ?_
        refine lv_aload_n hx hb dX6_makeAt_70 rfl (lv_at hl 3 rfl) ?_
        refine lv_aload_n hx hb dX6_makeAt_71 rfl (lv_at hl 2 rfl) ?_
        obtain ⟨u105, u106, u107, u108, z109, eV104, hu110, hu111, hu112, hu113, h114, h115⟩ := hq_o11 hP.1 h_t
        refine hp_get (v := .ref (u106)) hx hb hts hown hZ eV104 fl_X6_20 rfl dX6_makeAt_72 ?_
        refine lv_aload hx hb dX6_makeAt_75 (lv_at hl 0 rfl) ?_
        refine hp_get (v := .int (z94)) hx hb hts hown hZ eV89 fl_X6_47 rfl dX6_makeAt_77 ?_
        refine lv_aload hx hb dX6_makeAt_80 (lv_at hl 0 rfl) ?_
        refine hp_get (v := .int (z95)) hx hb hts hown hZ eV89 fl_X6_53 rfl dX6_makeAt_82 ?_
        refine lv_iload hx hb dX6_makeAt_85 (lv_at hl 6 rfl) ?_
        refine hp_callv (hp_runV (As := [.ref (u), .ref (u106), .int (z94), .int (z95), .int (pe)]) (rest := []) hx hb hml hown hts (t_X6_makePlain l D cs B G  V72 n hP.1 b 2 (t) h_t (u) h_u (u106) hu111 (z94) (z95) (pe) (by omega) (by omega)) hZ eV104 cv_X6_39 rfl rfl ⟨Nat.le_of_ble_eq_true rfl, Nat.le_of_ble_eq_true rfl⟩ rfl hl.1 rfl (Nat.le_of_ble_eq_true rfl) dX6_makeAt_87 ⟨(Nat.le_of_ble_eq_true rfl), (Nat.le_of_ble_eq_true rfl)⟩) hZ (fun V116 n117 _ _ hw118 hZ => ?_)
        obtain ⟨rfl, hq120⟩ := hw118
        have hP := hP.trans hq120 (by intro g h; simp_all)
        refine lv_aload_n hx hb dX6_makeAt_90 rfl (lv_at hl 2 rfl) ?_
        refine lv_aload_n hx hb dX6_makeAt_91 rfl (lv_at hl 3 rfl) ?_
        refine lv_aload_n hx hb dX6_makeAt_92 rfl (lv_at hl 2 rfl) ?_
        obtain ⟨u123, u124, u125, u126, z127, eV122, hu128, hu129, hu130, hu131, h132, h133⟩ := hq_o11 hP.1 h_t
        refine hp_get (v := .ref (u125)) hx hb hts hown hZ eV122 fl_X6_23 rfl dX6_makeAt_93 ?_
        refine lv_iload_n hx hb dX6_makeAt_96 rfl (lv_at hl 4 rfl) ?_
        refine lv_aload hx hb dX6_makeAt_97 (lv_at hl 0 rfl) ?_
        have fx134 : V116 (u86) = some (.inr (5, [.int (z90), .int (z91), .int (z92), .int (z93), .int (z94), .int (z95), .int (z96), .int (z97), .ref (u98), .ref (u99)])) := (hq120.2 (u86) _ hu88 rfl).trans (eV89)
        refine hp_get (v := .int (z96)) hx hb hts hown hZ fx134 fl_X6_56 rfl dX6_makeAt_99 ?_
        refine lv_iconst (v := 0) hx hb dX6_makeAt_102 (by decide) ?_
        refine hp_callv (hp_runV (As := [.ref (u), .ref (u125), .int (v), .int (z96), .int (0)]) (rest := []) hx hb hml hown hts (t_X6_makePlain l D cs B G  V116 n hP.1 b 2 (t) h_t (u) h_u (u125) hu130 (v) (z96) (0) (by omega) (by omega)) hZ eV122 cv_X6_39 rfl rfl ⟨Nat.le_of_ble_eq_true rfl, Nat.le_of_ble_eq_true rfl⟩ rfl hl.1 rfl (Nat.le_of_ble_eq_true rfl) dX6_makeAt_103 ⟨(Nat.le_of_ble_eq_true rfl), (Nat.le_of_ble_eq_true rfl)⟩) hZ (fun V135 n136 _ _ hw137 hZ => ?_)
        obtain ⟨rfl, hq139⟩ := hw137
        have hP := hP.trans hq139 (by intro g h; simp_all)
        refine lv_aload_n hx hb dX6_makeAt_106 rfl (lv_at hl 2 rfl) ?_
        obtain ⟨u142, u143, u144, u145, z146, eV141, hu147, hu148, hu149, hu150, h151, h152⟩ := hq_o11 hP.1 h_t
        refine hp_get (v := .ref (u142)) hx hb hts hown hZ eV141 fl_X6_14 rfl dX6_makeAt_107 ?_
        obtain ⟨u160, z161, eV159, hu162, h163, h164, h165⟩ := hq_o8 hP.1 hu147
        refine hp_callv (hp_runV (As := []) (rest := []) hx hb hml hown hts (t_X3_clear l D cs B G  V135 n hP.1 4 (u142) hu147 ) hZ eV159 cv_X6_59 rfl rfl ⟨Nat.le_of_ble_eq_true rfl, Nat.le_of_ble_eq_true rfl⟩ rfl hl.1 rfl (Nat.le_of_ble_eq_true rfl) dX6_makeAt_110 ⟨(Nat.le_of_ble_eq_true rfl), (Nat.le_of_ble_eq_true rfl)⟩) hZ (fun V153 n154 _ _ hw155 hZ => ?_)
        obtain ⟨rfl, hq157⟩ := hw155
        have hP := hP.trans hq157 (by intro g h; simp_all)
        refine lv_iconst (v := 0) hx hb dX6_makeAt_113 (by decide) ?_
        refine lv_istore (lv' := [(7, .int (0)), (6, .ref (u86)), (5, .int (r4)), (0, .ref (t)), (1, .ref (u)), (2, .int (v)), (3, .int (te)), (4, .int (pe))]) hx hb dX6_makeAt_114 hl (by decide) rfl (fun ls hl => ?_)
        have hl166 : (0 : Int32).toInt = 0 := by decide
        suffices lp116 : ∀ (k9 : Nat) (V9 : hp_V) (H9 : Heap) (locs9 : List Loc) (ls : Array Slot) (i : Int32), (100 - i.toInt).toNat = k9 → hp_Z D cs B s V9 H9 n locs9 → hq_P cs G (fun g => g.1 == 5 || g.1 == 6 || g.1 == 7) V V9 → 0 ≤ i.toInt → i.toInt ≤ 4 → lv_has ls 9 [(7, .int (i)), (6, .ref (u86)), (5, .int (r4)), (0, .ref (t)), (1, .ref (u)), (2, .int (v)), (3, .int (te)), (4, .int (pe))] → W p l e ({ frames := 6, cells := 0, slots := 0, locals := 149 }) s m ([.ref (t), .ref (u), .int (v), .int (te), .int (pe)] : List Value).toArray below meth c H9 locs9 0 0 (MQ below (hp_QV D cs B (fun V' n' => n = n' ∧ hq_P cs G (fun g => g.1 == 5 || g.1 == 6 || g.1 == 7) V V')) ([.ref (t), .ref (u), .int (v), .int (te), .int (pe)] : List Value).toArray s 0 0 (hp_F B)) (F0 m 116 ls []) from lp116 _ _ _ _ ls (0) rfl hZ hP (by omega) (by omega) (lv_sub hl [0, 1, 2, 3, 4, 5, 6, 7] rfl)
        intro k9
        induction k9 using Nat.strongRecOn with
        | _ k9 ih116 =>
          intro V9 H9 locs9 ls i  hk116 hZ hP  hv167 hv168 hl
          have hb_i := hq_rng i
          have hP_116 := hP
          refine lv_iload hx hb dX6_makeAt_116 (lv_at hl 0 rfl) ?_
          refine lv_aload_n hx hb dX6_makeAt_118 rfl (lv_at hl 3 rfl) ?_
          obtain ⟨u170, u171, u172, u173, z174, eV169, hu175, hu176, hu177, hu178, h179, h180⟩ := hq_o11 hP.1 h_t
          refine hp_get (v := .ref (u171)) hx hb hts hown hZ eV169 fl_X6_20 rfl dX6_makeAt_119 ?_
          obtain ⟨u182, z183, eV181, hu184, h185, h186, h187⟩ := hq_o8 hP.1 hu176
          refine hp_get (v := .int (z183)) hx hb hts hown hZ eV181 fl_X6_62 rfl dX6_makeAt_122 ?_
          refine lv_icmp_ge (tgt := 179) hx hb dX6_makeAt_125 (by decide) (fun c188 => ?_) (fun c188 => ?_)
          · have c188 : (z183).toInt ≤ (i).toInt := hq_lei.mp c188
            exact hp_vret hx hb hr hlocks hZ ⟨rfl, hP⟩ dX6_makeAt_179
          · have c188 : ¬ (z183).toInt ≤ (i).toInt := fun h9 => c188 (hq_lei.mpr h9)
            refine lv_iconst (v := 0) hx hb dX6_makeAt_128 (by decide) ?_
            refine lv_istore (lv' := [(8, .int (0)), (7, .int (i)), (6, .ref (u86)), (5, .int (r4)), (0, .ref (t)), (1, .ref (u)), (2, .int (v)), (3, .int (te)), (4, .int (pe))]) hx hb dX6_makeAt_129 hl (by decide) rfl (fun ls hl => ?_)
            have hl189 : (0 : Int32).toInt = 0 := by decide
            suffices lp131 : ∀ (k9 : Nat) (V9 : hp_V) (H9 : Heap) (locs9 : List Loc) (ls : Array Slot) (j : Int32), (100 - j.toInt).toNat = k9 → hp_Z D cs B s V9 H9 n locs9 → hq_P cs G (fun g => g.1 == 5 || g.1 == 6 || g.1 == 7) V V9 → 0 ≤ j.toInt → j.toInt ≤ 4 → lv_has ls 9 [(8, .int (j)), (7, .int (i)), (6, .ref (u86)), (5, .int (r4)), (0, .ref (t)), (1, .ref (u)), (2, .int (v)), (3, .int (te)), (4, .int (pe))] → W p l e ({ frames := 6, cells := 0, slots := 0, locals := 149 }) s m ([.ref (t), .ref (u), .int (v), .int (te), .int (pe)] : List Value).toArray below meth c H9 locs9 0 0 (MQ below (hp_QV D cs B (fun V' n' => n = n' ∧ hq_P cs G (fun g => g.1 == 5 || g.1 == 6 || g.1 == 7) V V')) ([.ref (t), .ref (u), .int (v), .int (te), .int (pe)] : List Value).toArray s 0 0 (hp_F B)) (F0 m 131 ls []) from lp131 _ _ _ _ ls (0) rfl hZ hP (by omega) (by omega) (lv_sub hl [0, 1, 2, 3, 4, 5, 6, 7, 8] rfl)
            intro k9
            induction k9 using Nat.strongRecOn with
            | _ k9 ih131 =>
              intro V9 H9 locs9 ls j  hk131 hZ hP  hv190 hv191 hl
              have hb_j := hq_rng j
              have hP_131 := hP
              refine lv_iload hx hb dX6_makeAt_131 (lv_at hl 0 rfl) ?_
              refine lv_aload_n hx hb dX6_makeAt_133 rfl (lv_at hl 4 rfl) ?_
              obtain ⟨u193, u194, u195, u196, z197, eV192, hu198, hu199, hu200, hu201, h202, h203⟩ := hq_o11 hP.1 h_t
              refine hp_get (v := .ref (u195)) hx hb hts hown hZ eV192 fl_X6_23 rfl dX6_makeAt_134 ?_
              obtain ⟨u205, z206, eV204, hu207, h208, h209, h210⟩ := hq_o8 hP.1 hu200
              refine hp_get (v := .int (z206)) hx hb hts hown hZ eV204 fl_X6_62 rfl dX6_makeAt_137 ?_
              refine lv_icmp_ge (tgt := 173) hx hb dX6_makeAt_140 (by decide) (fun c211 => ?_) (fun c211 => ?_)
              · have c211 : (z206).toInt ≤ (j).toInt := hq_lei.mp c211
                obtain ⟨y212, ey213⟩ : ∃ y : Int32, y = i + (1) := ⟨_, rfl⟩
                obtain ⟨k214, hk215, b216, b217⟩ := hq_add (i) (1)
                rw [← ey213] at hk215 b216 b217
                have hk215 : (y212).toInt = (i).toInt + (1) + k214 * 4294967296 := hk215
                refine lv_iinc (v := y212) (lv' := [(7, .int (y212)), (8, .int (j)), (6, .ref (u86)), (5, .int (r4)), (0, .ref (t)), (1, .ref (u)), (2, .int (v)), (3, .int (te)), (4, .int (pe))]) hx hb dX6_makeAt_173 hl (k := 1) rfl (by rw [ey213]; rfl) (by decide) rfl (fun ls hl => ?_)
                refine lv_goto (tgt := 116) hx hb dX6_makeAt_176 (by decide) ?_
                exact ih116 _ (by omega) _ _ _ ls (y212) rfl hZ hP (by omega) (by omega) (lv_sub hl [0, 2, 3, 4, 5, 6, 7, 8] rfl)
              · have c211 : ¬ (z206).toInt ≤ (j).toInt := fun h9 => c211 (hq_lei.mpr h9)
                refine lv_aload_n hx hb dX6_makeAt_143 rfl (lv_at hl 4 rfl) ?_
                refine lv_iload hx hb dX6_makeAt_144 (lv_at hl 3 rfl) ?_
                refine lv_aload_n hx hb dX6_makeAt_146 rfl (lv_at hl 4 rfl) ?_
                refine hp_get (v := .ref (u194)) hx hb hts hown hZ eV192 fl_X6_20 rfl dX6_makeAt_147 ?_
                refine lv_iload hx hb dX6_makeAt_150 (lv_at hl 1 rfl) ?_
                obtain ⟨u225, z226, eV224, hu227, h228, h229, h230⟩ := hq_o8 hP.1 hu199
                refine hp_callq (hp_runV (As := [.int (i)]) (rest := [.int (r4), .ref (t)]) hx hb hml hown hts (t_X3_get l D cs B G  V9 n hP.1 2 (u194) hu199 (i) ) hZ eV224 cv_X6_65 rfl rfl ⟨Nat.le_of_ble_eq_true rfl, Nat.le_of_ble_eq_true rfl⟩ rfl hl.1 rfl (Nat.le_of_ble_eq_true rfl) dX6_makeAt_152 ⟨(Nat.le_of_ble_eq_true rfl), (Nat.le_of_ble_eq_true rfl)⟩) hZ (fun r221 V218 n219 _ _ hw220 hZ => ?_)
                obtain ⟨rfl, hq222, hr223⟩ := hw220
                have hP := hP.trans hq222 (fun _ _ => rfl)
                rcases r221 with _ | u231
                · refine W.eq (g2 := F0 m 155 ls [.null, .int (r4), .ref (t)]) rfl ?_
                  refine lv_aload_n hx hb dX6_makeAt_155 rfl (lv_at hl 4 rfl) ?_
                  have fx233 : V218 (t) = some (.inr (6, [.ref (u193), .int (z197), .ref (u194), .ref (u195), .ref (u196)])) := (hq222.2 (t) _ h_t rfl).trans (eV192)
                  refine hp_get (v := .ref (u195)) hx hb hts hown hZ fx233 fl_X6_23 rfl dX6_makeAt_156 ?_
                  refine lv_iload hx hb dX6_makeAt_159 (lv_at hl 0 rfl) ?_
                  have fx240 : V218 (u195) = some (.inr (3, [.ref (u205), .int (z206)])) := (hq222.2 (u195) _ hu200 rfl).trans (eV204)
                  refine hp_callq (hp_runV (As := [.int (j)]) (rest := [.null, .int (r4), .ref (t)]) hx hb hml hown hts (t_X3_get l D cs B G  V218 n hP.1 2 (u195) hu200 (j) ) hZ fx240 cv_X6_65 rfl rfl ⟨Nat.le_of_ble_eq_true rfl, Nat.le_of_ble_eq_true rfl⟩ rfl hl.1 rfl (Nat.le_of_ble_eq_true rfl) dX6_makeAt_161 ⟨(Nat.le_of_ble_eq_true rfl), (Nat.le_of_ble_eq_true rfl)⟩) hZ (fun r237 V234 n235 _ _ hw236 hZ => ?_)
                  obtain ⟨rfl, hq238, hr239⟩ := hw236
                  have hP := hP.trans hq238 (fun _ _ => rfl)
                  rcases r237 with _ | u241
                  · refine W.eq (g2 := F0 m 164 ls [.null, .null, .int (r4), .ref (t)]) rfl ?_
                    have fx249 : V234 (t) = some (.inr (6, [.ref (u193), .int (z197), .ref (u194), .ref (u195), .ref (u196)])) := (hq238.2 (t) _ h_t rfl).trans (fx233)
                    refine hp_callv (hp_runV (As := [.int (r4), .null, .null]) (rest := []) hx hb hml hown hts (t_X6_join_nn l D cs B G  V234 n hP.1  (t) h_t (r4) ) hZ fx249 cv_X6_69 rfl rfl ⟨Nat.le_of_ble_eq_true rfl, Nat.le_of_ble_eq_true rfl⟩ rfl hl.1 rfl (Nat.le_of_ble_eq_true rfl) dX6_makeAt_164 ⟨(Nat.le_of_ble_eq_true rfl), (Nat.le_of_ble_eq_true rfl)⟩) hZ (fun V243 n244 _ _ hw245 hZ => ?_)
                    obtain ⟨rfl, hq247⟩ := hw245
                    have hP := hP.trans hq247 (by intro g h; simp_all)
                    obtain ⟨y250, ey251⟩ : ∃ y : Int32, y = j + (1) := ⟨_, rfl⟩
                    obtain ⟨k252, hk253, b254, b255⟩ := hq_add (j) (1)
                    rw [← ey251] at hk253 b254 b255
                    have hk253 : (y250).toInt = (j).toInt + (1) + k252 * 4294967296 := hk253
                    refine lv_iinc (v := y250) (lv' := [(8, .int (y250)), (7, .int (i)), (6, .ref (u86)), (5, .int (r4)), (0, .ref (t)), (1, .ref (u)), (2, .int (v)), (3, .int (te)), (4, .int (pe))]) hx hb dX6_makeAt_167 hl (k := 0) rfl (by rw [ey251]; rfl) (by decide) rfl (fun ls hl => ?_)
                    refine lv_goto (tgt := 131) hx hb dX6_makeAt_170 (by decide) ?_
                    exact ih131 _ (by omega) _ _ _ ls (y250) rfl hZ hP (by omega) (by omega) (lv_sub hl [0, 1, 2, 3, 4, 5, 6, 7, 8] rfl)
                  · refine W.eq (g2 := F0 m 164 ls [.ref (u241), .null, .int (r4), .ref (t)]) rfl ?_
                    have hu242 := hr239 u241 rfl
                    have fx262 : V234 (t) = some (.inr (6, [.ref (u193), .int (z197), .ref (u194), .ref (u195), .ref (u196)])) := (hq238.2 (t) _ h_t rfl).trans (fx233)
                    refine hp_callv (hp_runV (As := [.int (r4), .null, .ref (u241)]) (rest := []) hx hb hml hown hts (t_X6_join_nr l D cs B G  V234 n hP.1  (t) h_t (r4) (u241) hu242 ) hZ fx262 cv_X6_69 rfl rfl ⟨Nat.le_of_ble_eq_true rfl, Nat.le_of_ble_eq_true rfl⟩ rfl hl.1 rfl (Nat.le_of_ble_eq_true rfl) dX6_makeAt_164 ⟨(Nat.le_of_ble_eq_true rfl), (Nat.le_of_ble_eq_true rfl)⟩) hZ (fun V256 n257 _ _ hw258 hZ => ?_)
                    obtain ⟨rfl, hq260⟩ := hw258
                    have hP := hP.trans hq260 (by intro g h; simp_all)
                    obtain ⟨y263, ey264⟩ : ∃ y : Int32, y = j + (1) := ⟨_, rfl⟩
                    obtain ⟨k265, hk266, b267, b268⟩ := hq_add (j) (1)
                    rw [← ey264] at hk266 b267 b268
                    have hk266 : (y263).toInt = (j).toInt + (1) + k265 * 4294967296 := hk266
                    refine lv_iinc (v := y263) (lv' := [(8, .int (y263)), (7, .int (i)), (6, .ref (u86)), (5, .int (r4)), (0, .ref (t)), (1, .ref (u)), (2, .int (v)), (3, .int (te)), (4, .int (pe))]) hx hb dX6_makeAt_167 hl (k := 0) rfl (by rw [ey264]; rfl) (by decide) rfl (fun ls hl => ?_)
                    refine lv_goto (tgt := 131) hx hb dX6_makeAt_170 (by decide) ?_
                    exact ih131 _ (by omega) _ _ _ ls (y263) rfl hZ hP (by omega) (by omega) (lv_sub hl [0, 1, 2, 3, 4, 5, 6, 7, 8] rfl)
                · refine W.eq (g2 := F0 m 155 ls [.ref (u231), .int (r4), .ref (t)]) rfl ?_
                  have hu232 := hr223 u231 rfl
                  refine lv_aload_n hx hb dX6_makeAt_155 rfl (lv_at hl 4 rfl) ?_
                  have fx269 : V218 (t) = some (.inr (6, [.ref (u193), .int (z197), .ref (u194), .ref (u195), .ref (u196)])) := (hq222.2 (t) _ h_t rfl).trans (eV192)
                  refine hp_get (v := .ref (u195)) hx hb hts hown hZ fx269 fl_X6_23 rfl dX6_makeAt_156 ?_
                  refine lv_iload hx hb dX6_makeAt_159 (lv_at hl 0 rfl) ?_
                  have fx276 : V218 (u195) = some (.inr (3, [.ref (u205), .int (z206)])) := (hq222.2 (u195) _ hu200 rfl).trans (eV204)
                  refine hp_callq (hp_runV (As := [.int (j)]) (rest := [.ref (u231), .int (r4), .ref (t)]) hx hb hml hown hts (t_X3_get l D cs B G  V218 n hP.1 2 (u195) hu200 (j) ) hZ fx276 cv_X6_65 rfl rfl ⟨Nat.le_of_ble_eq_true rfl, Nat.le_of_ble_eq_true rfl⟩ rfl hl.1 rfl (Nat.le_of_ble_eq_true rfl) dX6_makeAt_161 ⟨(Nat.le_of_ble_eq_true rfl), (Nat.le_of_ble_eq_true rfl)⟩) hZ (fun r273 V270 n271 _ _ hw272 hZ => ?_)
                  obtain ⟨rfl, hq274, hr275⟩ := hw272
                  have hP := hP.trans hq274 (fun _ _ => rfl)
                  rcases r273 with _ | u277
                  · refine W.eq (g2 := F0 m 164 ls [.null, .ref (u231), .int (r4), .ref (t)]) rfl ?_
                    have fx285 : V270 (t) = some (.inr (6, [.ref (u193), .int (z197), .ref (u194), .ref (u195), .ref (u196)])) := (hq274.2 (t) _ h_t rfl).trans (fx269)
                    refine hp_callv (hp_runV (As := [.int (r4), .ref (u231), .null]) (rest := []) hx hb hml hown hts (t_X6_join_rn l D cs B G  V270 n hP.1  (t) h_t (r4) (u231) hu232 ) hZ fx285 cv_X6_69 rfl rfl ⟨Nat.le_of_ble_eq_true rfl, Nat.le_of_ble_eq_true rfl⟩ rfl hl.1 rfl (Nat.le_of_ble_eq_true rfl) dX6_makeAt_164 ⟨(Nat.le_of_ble_eq_true rfl), (Nat.le_of_ble_eq_true rfl)⟩) hZ (fun V279 n280 _ _ hw281 hZ => ?_)
                    obtain ⟨rfl, hq283⟩ := hw281
                    have hP := hP.trans hq283 (by intro g h; simp_all)
                    obtain ⟨y286, ey287⟩ : ∃ y : Int32, y = j + (1) := ⟨_, rfl⟩
                    obtain ⟨k288, hk289, b290, b291⟩ := hq_add (j) (1)
                    rw [← ey287] at hk289 b290 b291
                    have hk289 : (y286).toInt = (j).toInt + (1) + k288 * 4294967296 := hk289
                    refine lv_iinc (v := y286) (lv' := [(8, .int (y286)), (7, .int (i)), (6, .ref (u86)), (5, .int (r4)), (0, .ref (t)), (1, .ref (u)), (2, .int (v)), (3, .int (te)), (4, .int (pe))]) hx hb dX6_makeAt_167 hl (k := 0) rfl (by rw [ey287]; rfl) (by decide) rfl (fun ls hl => ?_)
                    refine lv_goto (tgt := 131) hx hb dX6_makeAt_170 (by decide) ?_
                    exact ih131 _ (by omega) _ _ _ ls (y286) rfl hZ hP (by omega) (by omega) (lv_sub hl [0, 1, 2, 3, 4, 5, 6, 7, 8] rfl)
                  · refine W.eq (g2 := F0 m 164 ls [.ref (u277), .ref (u231), .int (r4), .ref (t)]) rfl ?_
                    have hu278 := hr275 u277 rfl
                    have fx298 : V270 (t) = some (.inr (6, [.ref (u193), .int (z197), .ref (u194), .ref (u195), .ref (u196)])) := (hq274.2 (t) _ h_t rfl).trans (fx269)
                    refine hp_callv (hp_runV (As := [.int (r4), .ref (u231), .ref (u277)]) (rest := []) hx hb hml hown hts (t_X6_join_rr l D cs B G  V270 n hP.1  (t) h_t (r4) (u231) hu232 (u277) hu278 ) hZ fx298 cv_X6_69 rfl rfl ⟨Nat.le_of_ble_eq_true rfl, Nat.le_of_ble_eq_true rfl⟩ rfl hl.1 rfl (Nat.le_of_ble_eq_true rfl) dX6_makeAt_164 ⟨(Nat.le_of_ble_eq_true rfl), (Nat.le_of_ble_eq_true rfl)⟩) hZ (fun V292 n293 _ _ hw294 hZ => ?_)
                    obtain ⟨rfl, hq296⟩ := hw294
                    have hP := hP.trans hq296 (by intro g h; simp_all)
                    obtain ⟨y299, ey300⟩ : ∃ y : Int32, y = j + (1) := ⟨_, rfl⟩
                    obtain ⟨k301, hk302, b303, b304⟩ := hq_add (j) (1)
                    rw [← ey300] at hk302 b303 b304
                    have hk302 : (y299).toInt = (j).toInt + (1) + k301 * 4294967296 := hk302
                    refine lv_iinc (v := y299) (lv' := [(8, .int (y299)), (7, .int (i)), (6, .ref (u86)), (5, .int (r4)), (0, .ref (t)), (1, .ref (u)), (2, .int (v)), (3, .int (te)), (4, .int (pe))]) hx hb dX6_makeAt_167 hl (k := 0) rfl (by rw [ey300]; rfl) (by decide) rfl (fun ls hl => ?_)
                    refine lv_goto (tgt := 131) hx hb dX6_makeAt_170 (by decide) ?_
                    exact ih131 _ (by omega) _ _ _ ls (y299) rfl hZ hP (by omega) (by omega) (lv_sub hl [0, 1, 2, 3, 4, 5, 6, 7, 8] rfl)
      · have c80 : ¬ (r75).toInt = (-1 : Int) := fun h9 => c80 (hq_eqi.mpr h9)
        refine lv_aload_n hx hb dX6_makeAt_46 rfl (lv_at hl 1 rfl) ?_
        refine lv_aload_n hx hb dX6_makeAt_47 rfl (lv_at hl 2 rfl) ?_
        refine lv_aload_n hx hb dX6_makeAt_48 rfl (lv_at hl 1 rfl) ?_
        obtain ⟨u306, u307, u308, u309, z310, eV305, hu311, hu312, hu313, hu314, h315, h316⟩ := hq_o11 hP.1 h_t
        refine hp_get (v := .ref (u306)) hx hb hts hown hZ eV305 fl_X6_14 rfl dX6_makeAt_49 ?_
        refine lv_iload_n hx hb dX6_makeAt_52 rfl (lv_at hl 3 rfl) ?_
        refine lv_iload_n hx hb dX6_makeAt_53 rfl (lv_at hl 4 rfl) ?_
        refine lv_iload hx hb dX6_makeAt_54 (lv_at hl 5 rfl) ?_
        refine hp_callv (hp_runV (As := [.ref (u), .ref (u306), .int (v), .int (te), .int (pe)]) (rest := []) hx hb hml hown hts (t_X6_makePlain l D cs B G  V72 n hP.1 b 4 (t) h_t (u) h_u (u306) hu311 (v) (te) (pe) (by omega) (by omega)) hZ eV305 cv_X6_39 rfl rfl ⟨Nat.le_of_ble_eq_true rfl, Nat.le_of_ble_eq_true rfl⟩ rfl hl.1 rfl (Nat.le_of_ble_eq_true rfl) dX6_makeAt_56 ⟨(Nat.le_of_ble_eq_true rfl), (Nat.le_of_ble_eq_true rfl)⟩) hZ (fun V317 n318 _ _ hw319 hZ => ?_)
        obtain ⟨rfl, hq321⟩ := hw319
        have hP := hP.trans hq321 (by intro g h; simp_all)
        exact hp_vret hx hb hr hlocks hZ ⟨rfl, hP⟩ dX6_makeAt_59

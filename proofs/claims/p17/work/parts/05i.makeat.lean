set_option maxHeartbeats 4000000 in
set_option maxRecDepth 100000 in
theorem t_X6_join_rr (l : Launch) (D : va_G) (cs : Nat → ClassId) (B : Nat) (G : hq_G) (V : hp_V) (n : Nat) (hI : hq_I cs G V) (t : Nat) (h_t : G t = some (11, 0, 0, 0)) (k : Int32) (f1 : Nat) (h_f1 : G f1 = some (7, 0, 0, 0)) (f2 : Nat) (h_f2 : G f2 = some (7, 0, 0, 0)) : hp_M l yX6_join cX6_join 5 none ({ frames := 4, cells := 0, slots := 0, locals := 92 }) D cs B V n [.ref (t), .int (k), .ref (f1), .ref (f2)] (hp_QV D cs B (fun V' n' => n = n' ∧ hq_P cs G (fun g => g.1 == 5 || g.1 == 6 || g.1 == 7) V V')) 0 0 := by
  refine hp_walk (R0 := RX6) (by decide) rfl ?_ (Nat.le_of_ble_eq_true rfl)
  intro p e s m below meth c ls hx hb hr hts hown hlocks hin hml hZ hl
  have hP : hq_P cs G (fun g => g.1 == 5 || g.1 == 6 || g.1 == 7) V V := hq_P.rf hI
  have hl : lv_has ls 5 [(0, .ref (t)), (1, .int (k)), (2, .ref (f1)), (3, .ref (f2))] := hl
  have hb_k := hq_rng k
  refine lv_aload_n hx hb dX6_join_0 rfl (lv_at hl 0 rfl) ?_
  obtain ⟨u2, u3, u4, u5, z6, eV1, hu7, hu8, hu9, hu10, h11, h12⟩ := hq_o11 hP.1 h_t
  refine hp_get (v := .ref (u2)) hx hb hts hown hZ eV1 fl_X6_14 rfl dX6_join_1 ?_
  obtain ⟨u20, z21, eV19, hu22, h23, h24, h25⟩ := hq_o8 hP.1 hu7
  refine hp_callq (hp_runV (As := []) (rest := []) hx hb hml hown hts (t_X3_open l D cs B G  V n hP.1 4 (u2) hu7 ) hZ eV19 cv_X6_73 rfl rfl ⟨Nat.le_of_ble_eq_true rfl, Nat.le_of_ble_eq_true rfl⟩ rfl hl.1 rfl (Nat.le_of_ble_eq_true rfl) dX6_join_4 ⟨(Nat.le_of_ble_eq_true rfl), (Nat.le_of_ble_eq_true rfl)⟩) hZ (fun r16 V13 n14 _ _ hw15 hZ => ?_)
  obtain ⟨rfl, hq17, hr18⟩ := hw15
  have hP := hP.trans hq17 (by intro g h; simp_all)
  rcases r16 with _ | u26
  · refine W.eq (g2 := F0 m 7 ls [.null]) rfl ?_
    refine lv_astoreN (lv' := [(4, .null), (0, .ref (t)), (1, .int (k)), (2, .ref (f1)), (3, .ref (f2))]) hx hb dX6_join_7 hl (by decide) rfl (fun ls hl => ?_)
    refine lv_aloadN hx hb dX6_join_9 (lv_at hl 0 rfl) ?_
    refine lv_ifnullN (tgt := 22) hx hb dX6_join_11 (by decide) ?_
    exact hp_vret hx hb hr hlocks hZ ⟨rfl, hP⟩ dX6_join_22
  · refine W.eq (g2 := F0 m 7 ls [.ref (u26)]) rfl ?_
    have hu27 := hr18 u26 rfl
    refine lv_astore (lv' := [(4, .ref (u26)), (0, .ref (t)), (1, .int (k)), (2, .ref (f1)), (3, .ref (f2))]) hx hb dX6_join_7 hl (by decide) rfl (fun ls hl => ?_)
    refine lv_aload hx hb dX6_join_9 (lv_at hl 0 rfl) ?_
    refine lv_ifnull hx hb dX6_join_11 ?_
    refine lv_aload_n hx hb dX6_join_14 rfl (lv_at hl 3 rfl) ?_
    refine lv_ifnull hx hb dX6_join_15 ?_
    refine lv_aload_n hx hb dX6_join_18 rfl (lv_at hl 4 rfl) ?_
    refine lv_ifnonnull (tgt := 23) hx hb dX6_join_19 (by decide) ?_
    refine lv_aload hx hb dX6_join_23 (lv_at hl 0 rfl) ?_
    refine lv_iload_n hx hb dX6_join_25 rfl (lv_at hl 2 rfl) ?_
    obtain ⟨u35, u36, z37, eV34, hu38, hu39, h40, h41⟩ := hq_o7 hP.1 hu27
    refine hp_callv (hp_runV (As := [.int (k)]) (rest := []) hx hb hml hown hts (t_X2_addLine l D cs B G  V13 n hP.1  (u26) hu27 (k) ) hZ eV34 cv_X6_77 rfl rfl ⟨Nat.le_of_ble_eq_true rfl, Nat.le_of_ble_eq_true rfl⟩ rfl hl.1 rfl (Nat.le_of_ble_eq_true rfl) dX6_join_26 ⟨(Nat.le_of_ble_eq_true rfl), (Nat.le_of_ble_eq_true rfl)⟩) hZ (fun V28 n29 _ _ hw30 hZ => ?_)
    obtain ⟨rfl, hq32⟩ := hw30
    have hP := hP.trans hq32 (by intro g h; simp_all)
    refine lv_aload hx hb dX6_join_29 (lv_at hl 0 rfl) ?_
    refine lv_aload_n hx hb dX6_join_31 rfl (lv_at hl 3 rfl) ?_
    obtain ⟨u49, u50, z51, eV48, hu52, hu53, h54, h55⟩ := hq_o7 hP.1 hu27
    refine hp_callv (hp_runV (As := [.ref (f1)]) (rest := []) hx hb hml hown hts (t_X2_addRow l D cs B G  V28 n hP.1  (u26) hu27 (f1) h_f1 ) hZ eV48 cv_X6_82 rfl rfl ⟨Nat.le_of_ble_eq_true rfl, Nat.le_of_ble_eq_true rfl⟩ rfl hl.1 rfl (Nat.le_of_ble_eq_true rfl) dX6_join_32 ⟨(Nat.le_of_ble_eq_true rfl), (Nat.le_of_ble_eq_true rfl)⟩) hZ (fun V42 n43 _ _ hw44 hZ => ?_)
    obtain ⟨rfl, hq46⟩ := hw44
    have hP := hP.trans hq46 (by intro g h; simp_all)
    refine lv_aload hx hb dX6_join_35 (lv_at hl 0 rfl) ?_
    refine lv_aload_n hx hb dX6_join_37 rfl (lv_at hl 4 rfl) ?_
    obtain ⟨u63, u64, z65, eV62, hu66, hu67, h68, h69⟩ := hq_o7 hP.1 hu27
    refine hp_callv (hp_runV (As := [.ref (f2)]) (rest := []) hx hb hml hown hts (t_X2_addRow l D cs B G  V42 n hP.1  (u26) hu27 (f2) h_f2 ) hZ eV62 cv_X6_82 rfl rfl ⟨Nat.le_of_ble_eq_true rfl, Nat.le_of_ble_eq_true rfl⟩ rfl hl.1 rfl (Nat.le_of_ble_eq_true rfl) dX6_join_38 ⟨(Nat.le_of_ble_eq_true rfl), (Nat.le_of_ble_eq_true rfl)⟩) hZ (fun V56 n57 _ _ hw58 hZ => ?_)
    obtain ⟨rfl, hq60⟩ := hw58
    have hP := hP.trans hq60 (by intro g h; simp_all)
    refine lv_aload hx hb dX6_join_41 (lv_at hl 0 rfl) ?_
    obtain ⟨u71, u72, z73, eV70, hu74, hu75, h76, h77⟩ := hq_o7 hP.1 hu27
    refine hp_get (v := .ref (u71)) hx hb hts hown hZ eV70 fl_X6_86 rfl dX6_join_43 ?_
    refine lv_aload_n hx hb dX6_join_46 rfl (lv_at hl 3 rfl) ?_
    obtain ⟨u79, u80, z81, eV78, hu82, hu83, h84, h85⟩ := hq_o7 hP.1 h_f1
    refine hp_get (v := .ref (u79)) hx hb hts hown hZ eV78 fl_X6_86 rfl dX6_join_47 ?_
    obtain ⟨u93, z94, eV92, hu95, h96, h97, h98⟩ := hq_o0 hP.1 hu74
    refine hp_calli (hp_runV (As := [.ref (u79)]) (rest := []) hx hb hml hown hts (t_X9_addAll l D cs B G (fun g => g.1 == 5) V56 n hP.1 30 30 (u71) hu74 (u79) hu82 rfl rfl) hZ eV92 cv_X6_89 rfl rfl ⟨Nat.le_of_ble_eq_true rfl, Nat.le_of_ble_eq_true rfl⟩ rfl hl.1 rfl (Nat.le_of_ble_eq_true rfl) dX6_join_50 ⟨(Nat.le_of_ble_eq_true rfl), (Nat.le_of_ble_eq_true rfl)⟩) hZ (fun r89 V86 n87 _ _ hw88 hZ => ?_)
    obtain ⟨rfl, hq90, hr91⟩ := hw88
    have hP := hP.trans hq90 (by intro g h; simp_all)
    have b99 := hq_rng r89
    refine lv_if_eq (tgt := 91) hx hb dX6_join_53 (by decide) (fun c100 => ?_) (fun c100 => ?_)
    · have c100 : (r89).toInt = (0 : Int) := hq_eqi.mp c100
      exact hp_vret hx hb hr hlocks hZ ⟨rfl, hP⟩ dX6_join_91
    · have c100 : ¬ (r89).toInt = (0 : Int) := fun h9 => c100 (hq_eqi.mpr h9)
      refine lv_aload hx hb dX6_join_56 (lv_at hl 0 rfl) ?_
      obtain ⟨u102, u103, z104, eV101, hu105, hu106, h107, h108⟩ := hq_o7 hP.1 hu27
      refine hp_get (v := .ref (u102)) hx hb hts hown hZ eV101 fl_X6_86 rfl dX6_join_58 ?_
      refine lv_bipush (v := 32) hx hb dX6_join_61 (by decide) ?_
      obtain ⟨u116, z117, eV115, hu118, h119, h120, h121⟩ := hq_o0 hP.1 hu105
      refine hp_calli (hp_runV (As := [.int (32)]) (rest := []) hx hb hml hown hts (t_X9_add l D cs B G (fun g => g.1 == 5) V86 n hP.1 30 (u102) hu105 (32) rfl rfl) hZ eV115 cv_X6_93 rfl rfl ⟨Nat.le_of_ble_eq_true rfl, Nat.le_of_ble_eq_true rfl⟩ rfl hl.1 rfl (Nat.le_of_ble_eq_true rfl) dX6_join_63 ⟨(Nat.le_of_ble_eq_true rfl), (Nat.le_of_ble_eq_true rfl)⟩) hZ (fun r112 V109 n110 _ _ hw111 hZ => ?_)
      obtain ⟨rfl, hq113, hr114⟩ := hw111
      have hP := hP.trans hq113 (by intro g h; simp_all)
      have b122 := hq_rng r112
      refine lv_if_eq (tgt := 91) hx hb dX6_join_66 (by decide) (fun c123 => ?_) (fun c123 => ?_)
      · have c123 : (r112).toInt = (0 : Int) := hq_eqi.mp c123
        exact hp_vret hx hb hr hlocks hZ ⟨rfl, hP⟩ dX6_join_91
      · have c123 : ¬ (r112).toInt = (0 : Int) := fun h9 => c123 (hq_eqi.mpr h9)
        refine lv_aload hx hb dX6_join_69 (lv_at hl 0 rfl) ?_
        obtain ⟨u125, u126, z127, eV124, hu128, hu129, h130, h131⟩ := hq_o7 hP.1 hu27
        refine hp_get (v := .ref (u125)) hx hb hts hown hZ eV124 fl_X6_86 rfl dX6_join_71 ?_
        refine lv_aload_n hx hb dX6_join_74 rfl (lv_at hl 4 rfl) ?_
        obtain ⟨u133, u134, z135, eV132, hu136, hu137, h138, h139⟩ := hq_o7 hP.1 h_f2
        refine hp_get (v := .ref (u133)) hx hb hts hown hZ eV132 fl_X6_86 rfl dX6_join_75 ?_
        obtain ⟨u147, z148, eV146, hu149, h150, h151, h152⟩ := hq_o0 hP.1 hu128
        refine hp_calli (hp_runV (As := [.ref (u133)]) (rest := []) hx hb hml hown hts (t_X9_addAll l D cs B G (fun g => g.1 == 5) V109 n hP.1 30 30 (u125) hu128 (u133) hu136 rfl rfl) hZ eV146 cv_X6_89 rfl rfl ⟨Nat.le_of_ble_eq_true rfl, Nat.le_of_ble_eq_true rfl⟩ rfl hl.1 rfl (Nat.le_of_ble_eq_true rfl) dX6_join_78 ⟨(Nat.le_of_ble_eq_true rfl), (Nat.le_of_ble_eq_true rfl)⟩) hZ (fun r143 V140 n141 _ _ hw142 hZ => ?_)
        obtain ⟨rfl, hq144, hr145⟩ := hw142
        have hP := hP.trans hq144 (by intro g h; simp_all)
        have b153 := hq_rng r143
        refine lv_if_eq (tgt := 91) hx hb dX6_join_81 (by decide) (fun c154 => ?_) (fun c154 => ?_)
        · have c154 : (r143).toInt = (0 : Int) := hq_eqi.mp c154
          exact hp_vret hx hb hr hlocks hZ ⟨rfl, hP⟩ dX6_join_91
        · have c154 : ¬ (r143).toInt = (0 : Int) := fun h9 => c154 (hq_eqi.mpr h9)
          refine lv_aload_n hx hb dX6_join_84 rfl (lv_at hl 1 rfl) ?_
          have fx155 : V140 (t) = some (.inr (6, [.ref (u2), .int (z6), .ref (u3), .ref (u4), .ref (u5)])) := (hq144.2 (t) _ h_t rfl).trans ((hq113.2 (t) _ h_t rfl).trans ((hq90.2 (t) _ h_t rfl).trans ((hq60.2 (t) _ h_t rfl).trans ((hq46.2 (t) _ h_t rfl).trans ((hq32.2 (t) _ h_t rfl).trans ((hq17.2 (t) _ h_t rfl).trans (eV1)))))))
          refine hp_get (v := .ref (u2)) hx hb hts hown hZ fx155 fl_X6_14 rfl dX6_join_85 ?_
          have fx162 : V140 (u2) = some (.inr (3, [.ref (u20), .int (z21)])) := (hq144.2 (u2) _ hu7 rfl).trans ((hq113.2 (u2) _ hu7 rfl).trans ((hq90.2 (u2) _ hu7 rfl).trans ((hq60.2 (u2) _ hu7 rfl).trans ((hq46.2 (u2) _ hu7 rfl).trans ((hq32.2 (u2) _ hu7 rfl).trans ((hq17.2 (u2) _ hu7 rfl).trans (eV19)))))))
          refine hp_callv (hp_runV (As := []) (rest := []) hx hb hml hown hts (t_X3_keep l D cs B G  V140 n hP.1 4 (u2) hu7 ) hZ fx162 cv_X6_97 rfl rfl ⟨Nat.le_of_ble_eq_true rfl, Nat.le_of_ble_eq_true rfl⟩ rfl hl.1 rfl (Nat.le_of_ble_eq_true rfl) dX6_join_88 ⟨(Nat.le_of_ble_eq_true rfl), (Nat.le_of_ble_eq_true rfl)⟩) hZ (fun V156 n157 _ _ hw158 hZ => ?_)
          obtain ⟨rfl, hq160⟩ := hw158
          have hP := hP.trans hq160 (by intro g h; simp_all)
          exact hp_vret hx hb hr hlocks hZ ⟨rfl, hP⟩ dX6_join_91

set_option maxHeartbeats 4000000 in
set_option maxRecDepth 100000 in
theorem t_X6_join_rn (l : Launch) (D : va_G) (cs : Nat → ClassId) (B : Nat) (G : hq_G) (V : hp_V) (n : Nat) (hI : hq_I cs G V) (t : Nat) (h_t : G t = some (11, 0, 0, 0)) (k : Int32) (f1 : Nat) (h_f1 : G f1 = some (7, 0, 0, 0)) : hp_M l yX6_join cX6_join 5 none ({ frames := 4, cells := 0, slots := 0, locals := 92 }) D cs B V n [.ref (t), .int (k), .ref (f1), .null] (hp_QV D cs B (fun V' n' => n = n' ∧ hq_P cs G (fun g => g.1 == 5 || g.1 == 6 || g.1 == 7) V V')) 0 0 := by
  refine hp_walk (R0 := RX6) (by decide) rfl ?_ (Nat.le_of_ble_eq_true rfl)
  intro p e s m below meth c ls hx hb hr hts hown hlocks hin hml hZ hl
  have hP : hq_P cs G (fun g => g.1 == 5 || g.1 == 6 || g.1 == 7) V V := hq_P.rf hI
  have hl : lv_has ls 5 [(0, .ref (t)), (1, .int (k)), (2, .ref (f1)), (3, .null)] := hl
  have hb_k := hq_rng k
  refine lv_aload_n hx hb dX6_join_0 rfl (lv_at hl 0 rfl) ?_
  obtain ⟨u2, u3, u4, u5, z6, eV1, hu7, hu8, hu9, hu10, h11, h12⟩ := hq_o11 hP.1 h_t
  refine hp_get (v := .ref (u2)) hx hb hts hown hZ eV1 fl_X6_14 rfl dX6_join_1 ?_
  obtain ⟨u20, z21, eV19, hu22, h23, h24, h25⟩ := hq_o8 hP.1 hu7
  refine hp_callq (hp_runV (As := []) (rest := []) hx hb hml hown hts (t_X3_open l D cs B G  V n hP.1 4 (u2) hu7 ) hZ eV19 cv_X6_73 rfl rfl ⟨Nat.le_of_ble_eq_true rfl, Nat.le_of_ble_eq_true rfl⟩ rfl hl.1 rfl (Nat.le_of_ble_eq_true rfl) dX6_join_4 ⟨(Nat.le_of_ble_eq_true rfl), (Nat.le_of_ble_eq_true rfl)⟩) hZ (fun r16 V13 n14 _ _ hw15 hZ => ?_)
  obtain ⟨rfl, hq17, hr18⟩ := hw15
  have hP := hP.trans hq17 (by intro g h; simp_all)
  rcases r16 with _ | u26
  · refine W.eq (g2 := F0 m 7 ls [.null]) rfl ?_
    refine lv_astoreN (lv' := [(4, .null), (0, .ref (t)), (1, .int (k)), (2, .ref (f1)), (3, .null)]) hx hb dX6_join_7 hl (by decide) rfl (fun ls hl => ?_)
    refine lv_aloadN hx hb dX6_join_9 (lv_at hl 0 rfl) ?_
    refine lv_ifnullN (tgt := 22) hx hb dX6_join_11 (by decide) ?_
    exact hp_vret hx hb hr hlocks hZ ⟨rfl, hP⟩ dX6_join_22
  · refine W.eq (g2 := F0 m 7 ls [.ref (u26)]) rfl ?_
    have hu27 := hr18 u26 rfl
    refine lv_astore (lv' := [(4, .ref (u26)), (0, .ref (t)), (1, .int (k)), (2, .ref (f1)), (3, .null)]) hx hb dX6_join_7 hl (by decide) rfl (fun ls hl => ?_)
    refine lv_aload hx hb dX6_join_9 (lv_at hl 0 rfl) ?_
    refine lv_ifnull hx hb dX6_join_11 ?_
    refine lv_aload_n hx hb dX6_join_14 rfl (lv_at hl 3 rfl) ?_
    refine lv_ifnull hx hb dX6_join_15 ?_
    refine lv_aload_nN hx hb dX6_join_18 rfl (lv_at hl 4 rfl) ?_
    refine lv_ifnonnullN hx hb dX6_join_19 ?_
    exact hp_vret hx hb hr hlocks hZ ⟨rfl, hP⟩ dX6_join_22

set_option maxHeartbeats 4000000 in
set_option maxRecDepth 100000 in
theorem t_X6_join_nr (l : Launch) (D : va_G) (cs : Nat → ClassId) (B : Nat) (G : hq_G) (V : hp_V) (n : Nat) (hI : hq_I cs G V) (t : Nat) (h_t : G t = some (11, 0, 0, 0)) (k : Int32) (f2 : Nat) (h_f2 : G f2 = some (7, 0, 0, 0)) : hp_M l yX6_join cX6_join 5 none ({ frames := 4, cells := 0, slots := 0, locals := 92 }) D cs B V n [.ref (t), .int (k), .null, .ref (f2)] (hp_QV D cs B (fun V' n' => n = n' ∧ hq_P cs G (fun g => g.1 == 5 || g.1 == 6 || g.1 == 7) V V')) 0 0 := by
  refine hp_walk (R0 := RX6) (by decide) rfl ?_ (Nat.le_of_ble_eq_true rfl)
  intro p e s m below meth c ls hx hb hr hts hown hlocks hin hml hZ hl
  have hP : hq_P cs G (fun g => g.1 == 5 || g.1 == 6 || g.1 == 7) V V := hq_P.rf hI
  have hl : lv_has ls 5 [(0, .ref (t)), (1, .int (k)), (2, .null), (3, .ref (f2))] := hl
  have hb_k := hq_rng k
  refine lv_aload_n hx hb dX6_join_0 rfl (lv_at hl 0 rfl) ?_
  obtain ⟨u2, u3, u4, u5, z6, eV1, hu7, hu8, hu9, hu10, h11, h12⟩ := hq_o11 hP.1 h_t
  refine hp_get (v := .ref (u2)) hx hb hts hown hZ eV1 fl_X6_14 rfl dX6_join_1 ?_
  obtain ⟨u20, z21, eV19, hu22, h23, h24, h25⟩ := hq_o8 hP.1 hu7
  refine hp_callq (hp_runV (As := []) (rest := []) hx hb hml hown hts (t_X3_open l D cs B G  V n hP.1 4 (u2) hu7 ) hZ eV19 cv_X6_73 rfl rfl ⟨Nat.le_of_ble_eq_true rfl, Nat.le_of_ble_eq_true rfl⟩ rfl hl.1 rfl (Nat.le_of_ble_eq_true rfl) dX6_join_4 ⟨(Nat.le_of_ble_eq_true rfl), (Nat.le_of_ble_eq_true rfl)⟩) hZ (fun r16 V13 n14 _ _ hw15 hZ => ?_)
  obtain ⟨rfl, hq17, hr18⟩ := hw15
  have hP := hP.trans hq17 (by intro g h; simp_all)
  rcases r16 with _ | u26
  · refine W.eq (g2 := F0 m 7 ls [.null]) rfl ?_
    refine lv_astoreN (lv' := [(4, .null), (0, .ref (t)), (1, .int (k)), (2, .null), (3, .ref (f2))]) hx hb dX6_join_7 hl (by decide) rfl (fun ls hl => ?_)
    refine lv_aloadN hx hb dX6_join_9 (lv_at hl 0 rfl) ?_
    refine lv_ifnullN (tgt := 22) hx hb dX6_join_11 (by decide) ?_
    exact hp_vret hx hb hr hlocks hZ ⟨rfl, hP⟩ dX6_join_22
  · refine W.eq (g2 := F0 m 7 ls [.ref (u26)]) rfl ?_
    have hu27 := hr18 u26 rfl
    refine lv_astore (lv' := [(4, .ref (u26)), (0, .ref (t)), (1, .int (k)), (2, .null), (3, .ref (f2))]) hx hb dX6_join_7 hl (by decide) rfl (fun ls hl => ?_)
    refine lv_aload hx hb dX6_join_9 (lv_at hl 0 rfl) ?_
    refine lv_ifnull hx hb dX6_join_11 ?_
    refine lv_aload_nN hx hb dX6_join_14 rfl (lv_at hl 3 rfl) ?_
    refine lv_ifnullN (tgt := 22) hx hb dX6_join_15 (by decide) ?_
    exact hp_vret hx hb hr hlocks hZ ⟨rfl, hP⟩ dX6_join_22

set_option maxHeartbeats 4000000 in
set_option maxRecDepth 100000 in
theorem t_X6_join_nn (l : Launch) (D : va_G) (cs : Nat → ClassId) (B : Nat) (G : hq_G) (V : hp_V) (n : Nat) (hI : hq_I cs G V) (t : Nat) (h_t : G t = some (11, 0, 0, 0)) (k : Int32) : hp_M l yX6_join cX6_join 5 none ({ frames := 4, cells := 0, slots := 0, locals := 92 }) D cs B V n [.ref (t), .int (k), .null, .null] (hp_QV D cs B (fun V' n' => n = n' ∧ hq_P cs G (fun g => g.1 == 5 || g.1 == 6 || g.1 == 7) V V')) 0 0 := by
  refine hp_walk (R0 := RX6) (by decide) rfl ?_ (Nat.le_of_ble_eq_true rfl)
  intro p e s m below meth c ls hx hb hr hts hown hlocks hin hml hZ hl
  have hP : hq_P cs G (fun g => g.1 == 5 || g.1 == 6 || g.1 == 7) V V := hq_P.rf hI
  have hl : lv_has ls 5 [(0, .ref (t)), (1, .int (k)), (2, .null), (3, .null)] := hl
  have hb_k := hq_rng k
  refine lv_aload_n hx hb dX6_join_0 rfl (lv_at hl 0 rfl) ?_
  obtain ⟨u2, u3, u4, u5, z6, eV1, hu7, hu8, hu9, hu10, h11, h12⟩ := hq_o11 hP.1 h_t
  refine hp_get (v := .ref (u2)) hx hb hts hown hZ eV1 fl_X6_14 rfl dX6_join_1 ?_
  obtain ⟨u20, z21, eV19, hu22, h23, h24, h25⟩ := hq_o8 hP.1 hu7
  refine hp_callq (hp_runV (As := []) (rest := []) hx hb hml hown hts (t_X3_open l D cs B G  V n hP.1 4 (u2) hu7 ) hZ eV19 cv_X6_73 rfl rfl ⟨Nat.le_of_ble_eq_true rfl, Nat.le_of_ble_eq_true rfl⟩ rfl hl.1 rfl (Nat.le_of_ble_eq_true rfl) dX6_join_4 ⟨(Nat.le_of_ble_eq_true rfl), (Nat.le_of_ble_eq_true rfl)⟩) hZ (fun r16 V13 n14 _ _ hw15 hZ => ?_)
  obtain ⟨rfl, hq17, hr18⟩ := hw15
  have hP := hP.trans hq17 (by intro g h; simp_all)
  rcases r16 with _ | u26
  · refine W.eq (g2 := F0 m 7 ls [.null]) rfl ?_
    refine lv_astoreN (lv' := [(4, .null), (0, .ref (t)), (1, .int (k)), (2, .null), (3, .null)]) hx hb dX6_join_7 hl (by decide) rfl (fun ls hl => ?_)
    refine lv_aloadN hx hb dX6_join_9 (lv_at hl 0 rfl) ?_
    refine lv_ifnullN (tgt := 22) hx hb dX6_join_11 (by decide) ?_
    exact hp_vret hx hb hr hlocks hZ ⟨rfl, hP⟩ dX6_join_22
  · refine W.eq (g2 := F0 m 7 ls [.ref (u26)]) rfl ?_
    have hu27 := hr18 u26 rfl
    refine lv_astore (lv' := [(4, .ref (u26)), (0, .ref (t)), (1, .int (k)), (2, .null), (3, .null)]) hx hb dX6_join_7 hl (by decide) rfl (fun ls hl => ?_)
    refine lv_aload hx hb dX6_join_9 (lv_at hl 0 rfl) ?_
    refine lv_ifnull hx hb dX6_join_11 ?_
    refine lv_aload_nN hx hb dX6_join_14 rfl (lv_at hl 3 rfl) ?_
    refine lv_ifnullN (tgt := 22) hx hb dX6_join_15 (by decide) ?_
    exact hp_vret hx hb hr hlocks hZ ⟨rfl, hP⟩ dX6_join_22

set_option maxHeartbeats 4000000 in
set_option maxRecDepth 100000 in
theorem t_X6_makeAt (l : Launch) (D : va_G) (cs : Nat → ClassId) (B : Nat) (G : hq_G) (V : hp_V) (n : Nat) (hI : hq_I cs G V) (b : Nat) (t : Nat) (h_t : G t = some (11, 0, 0, 0)) (u : Nat) (h_u : G u = some (6, b, 0, 0)) (v : Int32) (te : Int32) (pe : Int32) (hv0 : 0 ≤ v.toInt) (hv1 : v.toInt < 30) (hJ : hq_J cs V u) : hp_M l yX6_makeAt cX6_makeAt 9 none ({ frames := 6, cells := 0, slots := 0, locals := 149 }) D cs B V n [.ref (t), .ref (u), .int (v), .int (te), .int (pe)] (hp_QV D cs B (fun V' n' => n = n' ∧ hq_P cs G (fun g => g.1 == 5 || g.1 == 6 || g.1 == 7) V V')) 0 0 := by
  refine hp_walk (R0 := RX6) (by decide) rfl ?_ (Nat.le_of_ble_eq_true rfl)
  intro p e s m below meth c ls hx hb hr hts hown hlocks hin hml hZ hl
  have hP : hq_P cs G (fun g => g.1 == 5 || g.1 == 6 || g.1 == 7) V V := hq_P.rf hI
  have hl : lv_has ls 9 [(0, .ref (t)), (1, .ref (u)), (2, .int (v)), (3, .int (te)), (4, .int (pe))] := hl
  have hb_v := hq_rng v
  have hb_te := hq_rng te
  have hb_pe := hq_rng pe
  refine lv_aload_n hx hb dX6_makeAt_0 rfl (lv_at hl 1 rfl) ?_
  refine lv_iconst (v := 3) hx hb dX6_makeAt_1 (by decide) ?_
  refine lv_iconst (v := 0) hx hb dX6_makeAt_2 (by decide) ?_
  refine lv_iload_n hx hb dX6_makeAt_3 rfl (lv_at hl 2 rfl) ?_
  refine lv_iload_n hx hb dX6_makeAt_4 rfl (lv_at hl 3 rfl) ?_
  refine lv_iload hx hb dX6_makeAt_5 (lv_at hl 4 rfl) ?_
  have hl7 : (3 : Int32).toInt = 3 := by decide
  have hl8 : (0 : Int32).toInt = 0 := by decide
  obtain ⟨u10, u11, u12, u13, z14, z15, z16, eV9, hu17, hu18, hu19, hu20, ⟨h21, h22⟩, ⟨h23, h24⟩, h25, h26⟩ := hq_o6 hP.1 h_u
  refine hp_calli (hp_runV (As := [.int (3), .int (0), .int (v), .int (te), .int (pe)]) (rest := []) hx hb hml hown hts (t_X0_nextFitting l D cs B G  V n hP.1 b (u) h_u (3) (0) (v) (te) (pe) (by first | omega | decide) (by omega) (by omega)) hZ eV9 cv_X6_33 rfl rfl ⟨Nat.le_of_ble_eq_true rfl, Nat.le_of_ble_eq_true rfl⟩ rfl hl.1 rfl (Nat.le_of_ble_eq_true rfl) dX6_makeAt_7 ⟨(Nat.le_of_ble_eq_true rfl), (Nat.le_of_ble_eq_true rfl)⟩) hZ (fun r4 V1 n2 _ _ hw3 hZ => ?_)
  obtain ⟨rfl, hq5, hr6⟩ := hw3
  have hP := hP.trans hq5 (fun _ _ => rfl)
  have b27 := hq_rng r4
  obtain ⟨hcr, hcl⟩ := hr6
  refine lv_istore (lv' := [(5, .int (r4)), (0, .ref (t)), (1, .ref (u)), (2, .int (v)), (3, .int (te)), (4, .int (pe))]) hx hb dX6_makeAt_10 hl (by decide) rfl (fun ls hl => ?_)
  refine lv_iload hx hb dX6_makeAt_12 (lv_at hl 0 rfl) ?_
  refine lv_iconst (v := -1) hx hb dX6_makeAt_14 (by decide) ?_
  refine lv_icmp_eq (tgt := 46) hx hb dX6_makeAt_15 (by decide) (fun c28 => ?_) (fun c28 => ?_)
  · have c28 : (r4).toInt = (-1 : Int) := hq_eqi.mp c28
    refine lv_aload_n hx hb dX6_makeAt_46 rfl (lv_at hl 1 rfl) ?_
    refine lv_aload_n hx hb dX6_makeAt_47 rfl (lv_at hl 2 rfl) ?_
    refine lv_aload_n hx hb dX6_makeAt_48 rfl (lv_at hl 1 rfl) ?_
    obtain ⟨u30, u31, u32, u33, z34, eV29, hu35, hu36, hu37, hu38, h39, h40⟩ := hq_o11 hP.1 h_t
    refine hp_get (v := .ref (u30)) hx hb hts hown hZ eV29 fl_X6_14 rfl dX6_makeAt_49 ?_
    refine lv_iload_n hx hb dX6_makeAt_52 rfl (lv_at hl 3 rfl) ?_
    refine lv_iload_n hx hb dX6_makeAt_53 rfl (lv_at hl 4 rfl) ?_
    refine lv_iload hx hb dX6_makeAt_54 (lv_at hl 5 rfl) ?_
    refine hp_callv (hp_runV (As := [.ref (u), .ref (u30), .int (v), .int (te), .int (pe)]) (rest := []) hx hb hml hown hts (t_X6_makePlain l D cs B G  V1 n hP.1 b 4 (t) h_t (u) h_u (u30) hu35 (v) (te) (pe) (by omega) (by omega)) hZ eV29 cv_X6_39 rfl rfl ⟨Nat.le_of_ble_eq_true rfl, Nat.le_of_ble_eq_true rfl⟩ rfl hl.1 rfl (Nat.le_of_ble_eq_true rfl) dX6_makeAt_56 ⟨(Nat.le_of_ble_eq_true rfl), (Nat.le_of_ble_eq_true rfl)⟩) hZ (fun V41 n42 _ _ hw43 hZ => ?_)
    obtain ⟨rfl, hq45⟩ := hw43
    have hP := hP.trans hq45 (by intro g h; simp_all)
    exact hp_vret hx hb hr hlocks hZ ⟨rfl, hP⟩ dX6_makeAt_59
  · have c28 : ¬ (r4).toInt = (-1 : Int) := fun h9 => c28 (hq_eqi.mpr h9)
    refine lv_aload_n hx hb dX6_makeAt_18 rfl (lv_at hl 2 rfl) ?_
    refine lv_iconst (v := 5) hx hb dX6_makeAt_19 (by decide) ?_
    refine lv_iconst (v := 0) hx hb dX6_makeAt_20 (by decide) ?_
    refine lv_iload_n hx hb dX6_makeAt_21 rfl (lv_at hl 3 rfl) ?_
    refine lv_iload_n hx hb dX6_makeAt_22 rfl (lv_at hl 4 rfl) ?_
    refine lv_iload hx hb dX6_makeAt_23 (lv_at hl 5 rfl) ?_
    have hl53 : (5 : Int32).toInt = 5 := by decide
    have hl54 : (0 : Int32).toInt = 0 := by decide
    have fx55 : V1 (u) = some (.inr (0, [.ref (u10), .int (z14), .ref (u11), .ref (u12), .int (z15), .ref (u13), .int (z16)])) := (hq5.2 (u) _ h_u rfl).trans (eV9)
    refine hp_calli (hp_runV (As := [.int (5), .int (0), .int (v), .int (te), .int (pe)]) (rest := []) hx hb hml hown hts (t_X0_nextFitting l D cs B G  V1 n hP.1 b (u) h_u (5) (0) (v) (te) (pe) (by first | omega | decide) (by omega) (by omega)) hZ fx55 cv_X6_33 rfl rfl ⟨Nat.le_of_ble_eq_true rfl, Nat.le_of_ble_eq_true rfl⟩ rfl hl.1 rfl (Nat.le_of_ble_eq_true rfl) dX6_makeAt_25 ⟨(Nat.le_of_ble_eq_true rfl), (Nat.le_of_ble_eq_true rfl)⟩) hZ (fun r50 V47 n48 _ _ hw49 hZ => ?_)
    obtain ⟨rfl, hq51, hr52⟩ := hw49
    have hP := hP.trans hq51 (fun _ _ => rfl)
    have b56 := hq_rng r50
    refine lv_iconst (v := -1) hx hb dX6_makeAt_28 (by decide) ?_
    refine lv_icmp_ne (tgt := 46) hx hb dX6_makeAt_29 (by decide) (fun c57 => ?_) (fun c57 => ?_)
    · have c57 : ¬ (r50).toInt = (-1 : Int) := fun h9 => c57 (hq_eqi.mpr h9)
      refine lv_aload_n hx hb dX6_makeAt_46 rfl (lv_at hl 1 rfl) ?_
      refine lv_aload_n hx hb dX6_makeAt_47 rfl (lv_at hl 2 rfl) ?_
      refine lv_aload_n hx hb dX6_makeAt_48 rfl (lv_at hl 1 rfl) ?_
      obtain ⟨u59, u60, u61, u62, z63, eV58, hu64, hu65, hu66, hu67, h68, h69⟩ := hq_o11 hP.1 h_t
      refine hp_get (v := .ref (u59)) hx hb hts hown hZ eV58 fl_X6_14 rfl dX6_makeAt_49 ?_
      refine lv_iload_n hx hb dX6_makeAt_52 rfl (lv_at hl 3 rfl) ?_
      refine lv_iload_n hx hb dX6_makeAt_53 rfl (lv_at hl 4 rfl) ?_
      refine lv_iload hx hb dX6_makeAt_54 (lv_at hl 5 rfl) ?_
      refine hp_callv (hp_runV (As := [.ref (u), .ref (u59), .int (v), .int (te), .int (pe)]) (rest := []) hx hb hml hown hts (t_X6_makePlain l D cs B G  V47 n hP.1 b 4 (t) h_t (u) h_u (u59) hu64 (v) (te) (pe) (by omega) (by omega)) hZ eV58 cv_X6_39 rfl rfl ⟨Nat.le_of_ble_eq_true rfl, Nat.le_of_ble_eq_true rfl⟩ rfl hl.1 rfl (Nat.le_of_ble_eq_true rfl) dX6_makeAt_56 ⟨(Nat.le_of_ble_eq_true rfl), (Nat.le_of_ble_eq_true rfl)⟩) hZ (fun V70 n71 _ _ hw72 hZ => ?_)
      obtain ⟨rfl, hq74⟩ := hw72
      have hP := hP.trans hq74 (by intro g h; simp_all)
      exact hp_vret hx hb hr hlocks hZ ⟨rfl, hP⟩ dX6_makeAt_59
    · have c57 : (r50).toInt = (-1 : Int) := hq_eqi.mp c57
      refine lv_aload_n hx hb dX6_makeAt_32 rfl (lv_at hl 2 rfl) ?_
      refine lv_iconst (v := 4) hx hb dX6_makeAt_33 (by decide) ?_
      refine lv_iconst (v := 0) hx hb dX6_makeAt_34 (by decide) ?_
      refine lv_iload_n hx hb dX6_makeAt_35 rfl (lv_at hl 3 rfl) ?_
      refine lv_iload_n hx hb dX6_makeAt_36 rfl (lv_at hl 4 rfl) ?_
      refine lv_iload hx hb dX6_makeAt_37 (lv_at hl 5 rfl) ?_
      have hl82 : (4 : Int32).toInt = 4 := by decide
      have hl83 : (0 : Int32).toInt = 0 := by decide
      have fx84 : V47 (u) = some (.inr (0, [.ref (u10), .int (z14), .ref (u11), .ref (u12), .int (z15), .ref (u13), .int (z16)])) := (hq51.2 (u) _ h_u rfl).trans (fx55)
      refine hp_calli (hp_runV (As := [.int (4), .int (0), .int (v), .int (te), .int (pe)]) (rest := []) hx hb hml hown hts (t_X0_nextFitting l D cs B G  V47 n hP.1 b (u) h_u (4) (0) (v) (te) (pe) (by first | omega | decide) (by omega) (by omega)) hZ fx84 cv_X6_33 rfl rfl ⟨Nat.le_of_ble_eq_true rfl, Nat.le_of_ble_eq_true rfl⟩ rfl hl.1 rfl (Nat.le_of_ble_eq_true rfl) dX6_makeAt_39 ⟨(Nat.le_of_ble_eq_true rfl), (Nat.le_of_ble_eq_true rfl)⟩) hZ (fun r79 V76 n77 _ _ hw78 hZ => ?_)
      obtain ⟨rfl, hq80, hr81⟩ := hw78
      have hP := hP.trans hq80 (fun _ _ => rfl)
      have b85 := hq_rng r79
      refine lv_iconst (v := -1) hx hb dX6_makeAt_42 (by decide) ?_
      refine lv_icmp_eq (tgt := 60) hx hb dX6_makeAt_43 (by decide) (fun c86 => ?_) (fun c86 => ?_)
      · have c86 : (r79).toInt = (-1 : Int) := hq_eqi.mp c86
        refine lv_aload_n hx hb dX6_makeAt_60 rfl (lv_at hl 2 rfl) ?_
        have fx87 : V76 (u) = some (.inr (0, [.ref (u10), .int (z14), .ref (u11), .ref (u12), .int (z15), .ref (u13), .int (z16)])) := (hq80.2 (u) _ h_u rfl).trans (fx84)
        refine hp_get (v := .ref (u13)) hx hb hts hown hZ fx87 fl_X6_43 rfl dX6_makeAt_61 ?_
        refine lv_iload hx hb dX6_makeAt_64 (lv_at hl 0 rfl) ?_
        obtain ⟨hN90, g89, eV88, hf91, _⟩ := hq_o4 hP.1 hu20
        obtain ⟨u92, hx93, hu94⟩ := hf91 (r4 : Int32).toNatClampNeg (hq_ix (by omega) (by omega))
        have hu94 : G u92 = some (5, b, 0, 0) := hu94
        refine hp_aald (v := .ref (u92)) hx hb hZ 6 eV88 rfl (hq_in (by omega) (by omega)) (by rw [hx93]; rfl) dX6_makeAt_66 ?_
        refine lv_astore (lv' := [(6, .ref (u92)), (5, .int (r4)), (0, .ref (t)), (1, .ref (u)), (2, .int (v)), (3, .int (te)), (4, .int (pe))]) hx hb dX6_makeAt_67 hl (by decide) rfl (fun ls hl => ?_)
        obtain ⟨z96, z97, z98, z99, z100, z101, z102, z103, u104, u105, eV95, hu106, hu107, h108, h109⟩ := hq_o5 hP.1 hu94
        obtain ⟨k1, h1, hL1, hk1⟩ := hcl (by omega)
        have hL2 := hL1.keep hI h_u (hq_kp hP (by intro g h; simp [hq_lg] at h ⊢ <;> omega))
        obtain ⟨e1, e2⟩ := hL2.same fx87 eV88 hx93 eV95
        have hk3 : k1.toInt = 3 := hk1
        have hge := hJ _ _ _ hL1 hk3
        rw [← e2] at hge
        refine lv_aload_n hx hb dX6_makeAt_69 rfl (lv_at hl 2 rfl) ?_
        refine lv_aload_n hx hb dX6_makeAt_70 rfl (lv_at hl 3 rfl) ?_
        refine lv_aload_n hx hb dX6_makeAt_71 rfl (lv_at hl 2 rfl) ?_
        obtain ⟨u111, u112, u113, u114, z115, eV110, hu116, hu117, hu118, hu119, h120, h121⟩ := hq_o11 hP.1 h_t
        refine hp_get (v := .ref (u112)) hx hb hts hown hZ eV110 fl_X6_20 rfl dX6_makeAt_72 ?_
        refine lv_aload hx hb dX6_makeAt_75 (lv_at hl 0 rfl) ?_
        refine hp_get (v := .int (z100)) hx hb hts hown hZ eV95 fl_X6_47 rfl dX6_makeAt_77 ?_
        refine lv_aload hx hb dX6_makeAt_80 (lv_at hl 0 rfl) ?_
        refine hp_get (v := .int (z101)) hx hb hts hown hZ eV95 fl_X6_53 rfl dX6_makeAt_82 ?_
        refine lv_iload hx hb dX6_makeAt_85 (lv_at hl 6 rfl) ?_
        refine hp_callv (hp_runV (As := [.ref (u), .ref (u112), .int (z100), .int (z101), .int (pe)]) (rest := []) hx hb hml hown hts (t_X6_makePlain l D cs B G  V76 n hP.1 b 2 (t) h_t (u) h_u (u112) hu117 (z100) (z101) (pe) (by omega) (by omega)) hZ eV110 cv_X6_39 rfl rfl ⟨Nat.le_of_ble_eq_true rfl, Nat.le_of_ble_eq_true rfl⟩ rfl hl.1 rfl (Nat.le_of_ble_eq_true rfl) dX6_makeAt_87 ⟨(Nat.le_of_ble_eq_true rfl), (Nat.le_of_ble_eq_true rfl)⟩) hZ (fun V122 n123 _ _ hw124 hZ => ?_)
        obtain ⟨rfl, hq126⟩ := hw124
        have hP := hP.trans hq126 (by intro g h; simp_all)
        refine lv_aload_n hx hb dX6_makeAt_90 rfl (lv_at hl 2 rfl) ?_
        refine lv_aload_n hx hb dX6_makeAt_91 rfl (lv_at hl 3 rfl) ?_
        refine lv_aload_n hx hb dX6_makeAt_92 rfl (lv_at hl 2 rfl) ?_
        obtain ⟨u129, u130, u131, u132, z133, eV128, hu134, hu135, hu136, hu137, h138, h139⟩ := hq_o11 hP.1 h_t
        refine hp_get (v := .ref (u131)) hx hb hts hown hZ eV128 fl_X6_23 rfl dX6_makeAt_93 ?_
        refine lv_iload_n hx hb dX6_makeAt_96 rfl (lv_at hl 4 rfl) ?_
        refine lv_aload hx hb dX6_makeAt_97 (lv_at hl 0 rfl) ?_
        have fx140 : V122 (u92) = some (.inr (5, [.int (z96), .int (z97), .int (z98), .int (z99), .int (z100), .int (z101), .int (z102), .int (z103), .ref (u104), .ref (u105)])) := (hq126.2 (u92) _ hu94 rfl).trans (eV95)
        refine hp_get (v := .int (z102)) hx hb hts hown hZ fx140 fl_X6_56 rfl dX6_makeAt_99 ?_
        refine lv_iconst (v := 0) hx hb dX6_makeAt_102 (by decide) ?_
        have hl147 : (0 : Int32).toInt = 0 := by decide
        refine hp_callv (hp_runV (As := [.ref (u), .ref (u131), .int (v), .int (z102), .int (0)]) (rest := []) hx hb hml hown hts (t_X6_makePlain l D cs B G  V122 n hP.1 b 2 (t) h_t (u) h_u (u131) hu136 (v) (z102) (0) (by omega) (by omega)) hZ eV128 cv_X6_39 rfl rfl ⟨Nat.le_of_ble_eq_true rfl, Nat.le_of_ble_eq_true rfl⟩ rfl hl.1 rfl (Nat.le_of_ble_eq_true rfl) dX6_makeAt_103 ⟨(Nat.le_of_ble_eq_true rfl), (Nat.le_of_ble_eq_true rfl)⟩) hZ (fun V141 n142 _ _ hw143 hZ => ?_)
        obtain ⟨rfl, hq145⟩ := hw143
        have hP := hP.trans hq145 (by intro g h; simp_all)
        refine lv_aload_n hx hb dX6_makeAt_106 rfl (lv_at hl 2 rfl) ?_
        obtain ⟨u149, u150, u151, u152, z153, eV148, hu154, hu155, hu156, hu157, h158, h159⟩ := hq_o11 hP.1 h_t
        refine hp_get (v := .ref (u149)) hx hb hts hown hZ eV148 fl_X6_14 rfl dX6_makeAt_107 ?_
        obtain ⟨u167, z168, eV166, hu169, h170, h171, h172⟩ := hq_o8 hP.1 hu154
        refine hp_callv (hp_runV (As := []) (rest := []) hx hb hml hown hts (t_X3_clear l D cs B G  V141 n hP.1 4 (u149) hu154 ) hZ eV166 cv_X6_59 rfl rfl ⟨Nat.le_of_ble_eq_true rfl, Nat.le_of_ble_eq_true rfl⟩ rfl hl.1 rfl (Nat.le_of_ble_eq_true rfl) dX6_makeAt_110 ⟨(Nat.le_of_ble_eq_true rfl), (Nat.le_of_ble_eq_true rfl)⟩) hZ (fun V160 n161 _ _ hw162 hZ => ?_)
        obtain ⟨rfl, hq164⟩ := hw162
        have hP := hP.trans hq164 (by intro g h; simp_all)
        refine lv_iconst (v := 0) hx hb dX6_makeAt_113 (by decide) ?_
        refine lv_istore (lv' := [(7, .int (0)), (6, .ref (u92)), (5, .int (r4)), (0, .ref (t)), (1, .ref (u)), (2, .int (v)), (3, .int (te)), (4, .int (pe))]) hx hb dX6_makeAt_114 hl (by decide) rfl (fun ls hl => ?_)
        have hl173 : (0 : Int32).toInt = 0 := by decide
        suffices lp116 : ∀ (k9 : Nat) (V9 : hp_V) (H9 : Heap) (locs9 : List Loc) (ls : Array Slot) (i : Int32), (100 - i.toInt).toNat = k9 → hp_Z D cs B s V9 H9 n locs9 → hq_P cs G (fun g => g.1 == 5 || g.1 == 6 || g.1 == 7) V V9 → 0 ≤ i.toInt → i.toInt ≤ 4 → lv_has ls 9 [(7, .int (i)), (6, .ref (u92)), (5, .int (r4)), (0, .ref (t)), (1, .ref (u)), (2, .int (v)), (3, .int (te)), (4, .int (pe))] → W p l e ({ frames := 6, cells := 0, slots := 0, locals := 149 }) s m ([.ref (t), .ref (u), .int (v), .int (te), .int (pe)] : List Value).toArray below meth c H9 locs9 0 0 (MQ below (hp_QV D cs B (fun V' n' => n = n' ∧ hq_P cs G (fun g => g.1 == 5 || g.1 == 6 || g.1 == 7) V V')) ([.ref (t), .ref (u), .int (v), .int (te), .int (pe)] : List Value).toArray s 0 0 (hp_F B)) (F0 m 116 ls []) from lp116 _ _ _ _ ls (0) rfl hZ hP (by omega) (by omega) (lv_sub hl [0, 1, 2, 3, 4, 5, 6, 7] rfl)
        intro k9
        induction k9 using Nat.strongRecOn with
        | _ k9 ih116 =>
          intro V9 H9 locs9 ls i  hk116 hZ hP  hv174 hv175 hl
          have hb_i := hq_rng i
          have hP_116 := hP
          refine lv_iload hx hb dX6_makeAt_116 (lv_at hl 0 rfl) ?_
          refine lv_aload_n hx hb dX6_makeAt_118 rfl (lv_at hl 3 rfl) ?_
          obtain ⟨u177, u178, u179, u180, z181, eV176, hu182, hu183, hu184, hu185, h186, h187⟩ := hq_o11 hP.1 h_t
          refine hp_get (v := .ref (u178)) hx hb hts hown hZ eV176 fl_X6_20 rfl dX6_makeAt_119 ?_
          obtain ⟨u189, z190, eV188, hu191, h192, h193, h194⟩ := hq_o8 hP.1 hu183
          refine hp_get (v := .int (z190)) hx hb hts hown hZ eV188 fl_X6_62 rfl dX6_makeAt_122 ?_
          refine lv_icmp_ge (tgt := 179) hx hb dX6_makeAt_125 (by decide) (fun c195 => ?_) (fun c195 => ?_)
          · have c195 : (z190).toInt ≤ (i).toInt := hq_lei.mp c195
            exact hp_vret hx hb hr hlocks hZ ⟨rfl, hP⟩ dX6_makeAt_179
          · have c195 : ¬ (z190).toInt ≤ (i).toInt := fun h9 => c195 (hq_lei.mpr h9)
            refine lv_iconst (v := 0) hx hb dX6_makeAt_128 (by decide) ?_
            refine lv_istore (lv' := [(8, .int (0)), (7, .int (i)), (6, .ref (u92)), (5, .int (r4)), (0, .ref (t)), (1, .ref (u)), (2, .int (v)), (3, .int (te)), (4, .int (pe))]) hx hb dX6_makeAt_129 hl (by decide) rfl (fun ls hl => ?_)
            have hl196 : (0 : Int32).toInt = 0 := by decide
            suffices lp131 : ∀ (k9 : Nat) (V9 : hp_V) (H9 : Heap) (locs9 : List Loc) (ls : Array Slot) (j : Int32), (100 - j.toInt).toNat = k9 → hp_Z D cs B s V9 H9 n locs9 → hq_P cs G (fun g => g.1 == 5 || g.1 == 6 || g.1 == 7) V V9 → 0 ≤ j.toInt → j.toInt ≤ 4 → lv_has ls 9 [(8, .int (j)), (7, .int (i)), (6, .ref (u92)), (5, .int (r4)), (0, .ref (t)), (1, .ref (u)), (2, .int (v)), (3, .int (te)), (4, .int (pe))] → W p l e ({ frames := 6, cells := 0, slots := 0, locals := 149 }) s m ([.ref (t), .ref (u), .int (v), .int (te), .int (pe)] : List Value).toArray below meth c H9 locs9 0 0 (MQ below (hp_QV D cs B (fun V' n' => n = n' ∧ hq_P cs G (fun g => g.1 == 5 || g.1 == 6 || g.1 == 7) V V')) ([.ref (t), .ref (u), .int (v), .int (te), .int (pe)] : List Value).toArray s 0 0 (hp_F B)) (F0 m 131 ls []) from lp131 _ _ _ _ ls (0) rfl hZ hP (by omega) (by omega) (lv_sub hl [0, 1, 2, 3, 4, 5, 6, 7, 8] rfl)
            intro k9
            induction k9 using Nat.strongRecOn with
            | _ k9 ih131 =>
              intro V9 H9 locs9 ls j  hk131 hZ hP  hv197 hv198 hl
              have hb_j := hq_rng j
              have hP_131 := hP
              refine lv_iload hx hb dX6_makeAt_131 (lv_at hl 0 rfl) ?_
              refine lv_aload_n hx hb dX6_makeAt_133 rfl (lv_at hl 4 rfl) ?_
              obtain ⟨u200, u201, u202, u203, z204, eV199, hu205, hu206, hu207, hu208, h209, h210⟩ := hq_o11 hP.1 h_t
              refine hp_get (v := .ref (u202)) hx hb hts hown hZ eV199 fl_X6_23 rfl dX6_makeAt_134 ?_
              obtain ⟨u212, z213, eV211, hu214, h215, h216, h217⟩ := hq_o8 hP.1 hu207
              refine hp_get (v := .int (z213)) hx hb hts hown hZ eV211 fl_X6_62 rfl dX6_makeAt_137 ?_
              refine lv_icmp_ge (tgt := 173) hx hb dX6_makeAt_140 (by decide) (fun c218 => ?_) (fun c218 => ?_)
              · have c218 : (z213).toInt ≤ (j).toInt := hq_lei.mp c218
                obtain ⟨y219, ey220⟩ : ∃ y : Int32, y = i + (1) := ⟨_, rfl⟩
                obtain ⟨k221, hk222, b223, b224⟩ := hq_add (i) (1)
                rw [← ey220] at hk222 b223 b224
                have hk222 : (y219).toInt = (i).toInt + (1) + k221 * 4294967296 := hk222
                refine lv_iinc (v := y219) (lv' := [(7, .int (y219)), (8, .int (j)), (6, .ref (u92)), (5, .int (r4)), (0, .ref (t)), (1, .ref (u)), (2, .int (v)), (3, .int (te)), (4, .int (pe))]) hx hb dX6_makeAt_173 hl (k := 1) rfl (by rw [ey220]; rfl) (by decide) rfl (fun ls hl => ?_)
                refine lv_goto (tgt := 116) hx hb dX6_makeAt_176 (by decide) ?_
                exact ih116 _ (by omega) _ _ _ ls (y219) rfl hZ hP (by omega) (by omega) (lv_sub hl [0, 2, 3, 4, 5, 6, 7, 8] rfl)
              · have c218 : ¬ (z213).toInt ≤ (j).toInt := fun h9 => c218 (hq_lei.mpr h9)
                refine lv_aload_n hx hb dX6_makeAt_143 rfl (lv_at hl 4 rfl) ?_
                refine lv_iload hx hb dX6_makeAt_144 (lv_at hl 3 rfl) ?_
                refine lv_aload_n hx hb dX6_makeAt_146 rfl (lv_at hl 4 rfl) ?_
                refine hp_get (v := .ref (u201)) hx hb hts hown hZ eV199 fl_X6_20 rfl dX6_makeAt_147 ?_
                refine lv_iload hx hb dX6_makeAt_150 (lv_at hl 1 rfl) ?_
                obtain ⟨u232, z233, eV231, hu234, h235, h236, h237⟩ := hq_o8 hP.1 hu206
                refine hp_callq (hp_runV (As := [.int (i)]) (rest := [.int (r4), .ref (t)]) hx hb hml hown hts (t_X3_get l D cs B G  V9 n hP.1 2 (u201) hu206 (i) ) hZ eV231 cv_X6_65 rfl rfl ⟨Nat.le_of_ble_eq_true rfl, Nat.le_of_ble_eq_true rfl⟩ rfl hl.1 rfl (Nat.le_of_ble_eq_true rfl) dX6_makeAt_152 ⟨(Nat.le_of_ble_eq_true rfl), (Nat.le_of_ble_eq_true rfl)⟩) hZ (fun r228 V225 n226 _ _ hw227 hZ => ?_)
                obtain ⟨rfl, hq229, hr230⟩ := hw227
                have hP := hP.trans hq229 (fun _ _ => rfl)
                rcases r228 with _ | u238
                · refine W.eq (g2 := F0 m 155 ls [.null, .int (r4), .ref (t)]) rfl ?_
                  refine lv_aload_n hx hb dX6_makeAt_155 rfl (lv_at hl 4 rfl) ?_
                  have fx240 : V225 (t) = some (.inr (6, [.ref (u200), .int (z204), .ref (u201), .ref (u202), .ref (u203)])) := (hq229.2 (t) _ h_t rfl).trans (eV199)
                  refine hp_get (v := .ref (u202)) hx hb hts hown hZ fx240 fl_X6_23 rfl dX6_makeAt_156 ?_
                  refine lv_iload hx hb dX6_makeAt_159 (lv_at hl 0 rfl) ?_
                  have fx247 : V225 (u202) = some (.inr (3, [.ref (u212), .int (z213)])) := (hq229.2 (u202) _ hu207 rfl).trans (eV211)
                  refine hp_callq (hp_runV (As := [.int (j)]) (rest := [.null, .int (r4), .ref (t)]) hx hb hml hown hts (t_X3_get l D cs B G  V225 n hP.1 2 (u202) hu207 (j) ) hZ fx247 cv_X6_65 rfl rfl ⟨Nat.le_of_ble_eq_true rfl, Nat.le_of_ble_eq_true rfl⟩ rfl hl.1 rfl (Nat.le_of_ble_eq_true rfl) dX6_makeAt_161 ⟨(Nat.le_of_ble_eq_true rfl), (Nat.le_of_ble_eq_true rfl)⟩) hZ (fun r244 V241 n242 _ _ hw243 hZ => ?_)
                  obtain ⟨rfl, hq245, hr246⟩ := hw243
                  have hP := hP.trans hq245 (fun _ _ => rfl)
                  rcases r244 with _ | u248
                  · refine W.eq (g2 := F0 m 164 ls [.null, .null, .int (r4), .ref (t)]) rfl ?_
                    have fx256 : V241 (t) = some (.inr (6, [.ref (u200), .int (z204), .ref (u201), .ref (u202), .ref (u203)])) := (hq245.2 (t) _ h_t rfl).trans (fx240)
                    refine hp_callv (hp_runV (As := [.int (r4), .null, .null]) (rest := []) hx hb hml hown hts (t_X6_join_nn l D cs B G  V241 n hP.1  (t) h_t (r4) ) hZ fx256 cv_X6_69 rfl rfl ⟨Nat.le_of_ble_eq_true rfl, Nat.le_of_ble_eq_true rfl⟩ rfl hl.1 rfl (Nat.le_of_ble_eq_true rfl) dX6_makeAt_164 ⟨(Nat.le_of_ble_eq_true rfl), (Nat.le_of_ble_eq_true rfl)⟩) hZ (fun V250 n251 _ _ hw252 hZ => ?_)
                    obtain ⟨rfl, hq254⟩ := hw252
                    have hP := hP.trans hq254 (by intro g h; simp_all)
                    obtain ⟨y257, ey258⟩ : ∃ y : Int32, y = j + (1) := ⟨_, rfl⟩
                    obtain ⟨k259, hk260, b261, b262⟩ := hq_add (j) (1)
                    rw [← ey258] at hk260 b261 b262
                    have hk260 : (y257).toInt = (j).toInt + (1) + k259 * 4294967296 := hk260
                    refine lv_iinc (v := y257) (lv' := [(8, .int (y257)), (7, .int (i)), (6, .ref (u92)), (5, .int (r4)), (0, .ref (t)), (1, .ref (u)), (2, .int (v)), (3, .int (te)), (4, .int (pe))]) hx hb dX6_makeAt_167 hl (k := 0) rfl (by rw [ey258]; rfl) (by decide) rfl (fun ls hl => ?_)
                    refine lv_goto (tgt := 131) hx hb dX6_makeAt_170 (by decide) ?_
                    exact ih131 _ (by omega) _ _ _ ls (y257) rfl hZ hP (by omega) (by omega) (lv_sub hl [0, 1, 2, 3, 4, 5, 6, 7, 8] rfl)
                  · refine W.eq (g2 := F0 m 164 ls [.ref (u248), .null, .int (r4), .ref (t)]) rfl ?_
                    have hu249 := hr246 u248 rfl
                    have fx269 : V241 (t) = some (.inr (6, [.ref (u200), .int (z204), .ref (u201), .ref (u202), .ref (u203)])) := (hq245.2 (t) _ h_t rfl).trans (fx240)
                    refine hp_callv (hp_runV (As := [.int (r4), .null, .ref (u248)]) (rest := []) hx hb hml hown hts (t_X6_join_nr l D cs B G  V241 n hP.1  (t) h_t (r4) (u248) hu249 ) hZ fx269 cv_X6_69 rfl rfl ⟨Nat.le_of_ble_eq_true rfl, Nat.le_of_ble_eq_true rfl⟩ rfl hl.1 rfl (Nat.le_of_ble_eq_true rfl) dX6_makeAt_164 ⟨(Nat.le_of_ble_eq_true rfl), (Nat.le_of_ble_eq_true rfl)⟩) hZ (fun V263 n264 _ _ hw265 hZ => ?_)
                    obtain ⟨rfl, hq267⟩ := hw265
                    have hP := hP.trans hq267 (by intro g h; simp_all)
                    obtain ⟨y270, ey271⟩ : ∃ y : Int32, y = j + (1) := ⟨_, rfl⟩
                    obtain ⟨k272, hk273, b274, b275⟩ := hq_add (j) (1)
                    rw [← ey271] at hk273 b274 b275
                    have hk273 : (y270).toInt = (j).toInt + (1) + k272 * 4294967296 := hk273
                    refine lv_iinc (v := y270) (lv' := [(8, .int (y270)), (7, .int (i)), (6, .ref (u92)), (5, .int (r4)), (0, .ref (t)), (1, .ref (u)), (2, .int (v)), (3, .int (te)), (4, .int (pe))]) hx hb dX6_makeAt_167 hl (k := 0) rfl (by rw [ey271]; rfl) (by decide) rfl (fun ls hl => ?_)
                    refine lv_goto (tgt := 131) hx hb dX6_makeAt_170 (by decide) ?_
                    exact ih131 _ (by omega) _ _ _ ls (y270) rfl hZ hP (by omega) (by omega) (lv_sub hl [0, 1, 2, 3, 4, 5, 6, 7, 8] rfl)
                · refine W.eq (g2 := F0 m 155 ls [.ref (u238), .int (r4), .ref (t)]) rfl ?_
                  have hu239 := hr230 u238 rfl
                  refine lv_aload_n hx hb dX6_makeAt_155 rfl (lv_at hl 4 rfl) ?_
                  have fx276 : V225 (t) = some (.inr (6, [.ref (u200), .int (z204), .ref (u201), .ref (u202), .ref (u203)])) := (hq229.2 (t) _ h_t rfl).trans (eV199)
                  refine hp_get (v := .ref (u202)) hx hb hts hown hZ fx276 fl_X6_23 rfl dX6_makeAt_156 ?_
                  refine lv_iload hx hb dX6_makeAt_159 (lv_at hl 0 rfl) ?_
                  have fx283 : V225 (u202) = some (.inr (3, [.ref (u212), .int (z213)])) := (hq229.2 (u202) _ hu207 rfl).trans (eV211)
                  refine hp_callq (hp_runV (As := [.int (j)]) (rest := [.ref (u238), .int (r4), .ref (t)]) hx hb hml hown hts (t_X3_get l D cs B G  V225 n hP.1 2 (u202) hu207 (j) ) hZ fx283 cv_X6_65 rfl rfl ⟨Nat.le_of_ble_eq_true rfl, Nat.le_of_ble_eq_true rfl⟩ rfl hl.1 rfl (Nat.le_of_ble_eq_true rfl) dX6_makeAt_161 ⟨(Nat.le_of_ble_eq_true rfl), (Nat.le_of_ble_eq_true rfl)⟩) hZ (fun r280 V277 n278 _ _ hw279 hZ => ?_)
                  obtain ⟨rfl, hq281, hr282⟩ := hw279
                  have hP := hP.trans hq281 (fun _ _ => rfl)
                  rcases r280 with _ | u284
                  · refine W.eq (g2 := F0 m 164 ls [.null, .ref (u238), .int (r4), .ref (t)]) rfl ?_
                    have fx292 : V277 (t) = some (.inr (6, [.ref (u200), .int (z204), .ref (u201), .ref (u202), .ref (u203)])) := (hq281.2 (t) _ h_t rfl).trans (fx276)
                    refine hp_callv (hp_runV (As := [.int (r4), .ref (u238), .null]) (rest := []) hx hb hml hown hts (t_X6_join_rn l D cs B G  V277 n hP.1  (t) h_t (r4) (u238) hu239 ) hZ fx292 cv_X6_69 rfl rfl ⟨Nat.le_of_ble_eq_true rfl, Nat.le_of_ble_eq_true rfl⟩ rfl hl.1 rfl (Nat.le_of_ble_eq_true rfl) dX6_makeAt_164 ⟨(Nat.le_of_ble_eq_true rfl), (Nat.le_of_ble_eq_true rfl)⟩) hZ (fun V286 n287 _ _ hw288 hZ => ?_)
                    obtain ⟨rfl, hq290⟩ := hw288
                    have hP := hP.trans hq290 (by intro g h; simp_all)
                    obtain ⟨y293, ey294⟩ : ∃ y : Int32, y = j + (1) := ⟨_, rfl⟩
                    obtain ⟨k295, hk296, b297, b298⟩ := hq_add (j) (1)
                    rw [← ey294] at hk296 b297 b298
                    have hk296 : (y293).toInt = (j).toInt + (1) + k295 * 4294967296 := hk296
                    refine lv_iinc (v := y293) (lv' := [(8, .int (y293)), (7, .int (i)), (6, .ref (u92)), (5, .int (r4)), (0, .ref (t)), (1, .ref (u)), (2, .int (v)), (3, .int (te)), (4, .int (pe))]) hx hb dX6_makeAt_167 hl (k := 0) rfl (by rw [ey294]; rfl) (by decide) rfl (fun ls hl => ?_)
                    refine lv_goto (tgt := 131) hx hb dX6_makeAt_170 (by decide) ?_
                    exact ih131 _ (by omega) _ _ _ ls (y293) rfl hZ hP (by omega) (by omega) (lv_sub hl [0, 1, 2, 3, 4, 5, 6, 7, 8] rfl)
                  · refine W.eq (g2 := F0 m 164 ls [.ref (u284), .ref (u238), .int (r4), .ref (t)]) rfl ?_
                    have hu285 := hr282 u284 rfl
                    have fx305 : V277 (t) = some (.inr (6, [.ref (u200), .int (z204), .ref (u201), .ref (u202), .ref (u203)])) := (hq281.2 (t) _ h_t rfl).trans (fx276)
                    refine hp_callv (hp_runV (As := [.int (r4), .ref (u238), .ref (u284)]) (rest := []) hx hb hml hown hts (t_X6_join_rr l D cs B G  V277 n hP.1  (t) h_t (r4) (u238) hu239 (u284) hu285 ) hZ fx305 cv_X6_69 rfl rfl ⟨Nat.le_of_ble_eq_true rfl, Nat.le_of_ble_eq_true rfl⟩ rfl hl.1 rfl (Nat.le_of_ble_eq_true rfl) dX6_makeAt_164 ⟨(Nat.le_of_ble_eq_true rfl), (Nat.le_of_ble_eq_true rfl)⟩) hZ (fun V299 n300 _ _ hw301 hZ => ?_)
                    obtain ⟨rfl, hq303⟩ := hw301
                    have hP := hP.trans hq303 (by intro g h; simp_all)
                    obtain ⟨y306, ey307⟩ : ∃ y : Int32, y = j + (1) := ⟨_, rfl⟩
                    obtain ⟨k308, hk309, b310, b311⟩ := hq_add (j) (1)
                    rw [← ey307] at hk309 b310 b311
                    have hk309 : (y306).toInt = (j).toInt + (1) + k308 * 4294967296 := hk309
                    refine lv_iinc (v := y306) (lv' := [(8, .int (y306)), (7, .int (i)), (6, .ref (u92)), (5, .int (r4)), (0, .ref (t)), (1, .ref (u)), (2, .int (v)), (3, .int (te)), (4, .int (pe))]) hx hb dX6_makeAt_167 hl (k := 0) rfl (by rw [ey307]; rfl) (by decide) rfl (fun ls hl => ?_)
                    refine lv_goto (tgt := 131) hx hb dX6_makeAt_170 (by decide) ?_
                    exact ih131 _ (by omega) _ _ _ ls (y306) rfl hZ hP (by omega) (by omega) (lv_sub hl [0, 1, 2, 3, 4, 5, 6, 7, 8] rfl)
      · have c86 : ¬ (r79).toInt = (-1 : Int) := fun h9 => c86 (hq_eqi.mpr h9)
        refine lv_aload_n hx hb dX6_makeAt_46 rfl (lv_at hl 1 rfl) ?_
        refine lv_aload_n hx hb dX6_makeAt_47 rfl (lv_at hl 2 rfl) ?_
        refine lv_aload_n hx hb dX6_makeAt_48 rfl (lv_at hl 1 rfl) ?_
        obtain ⟨u313, u314, u315, u316, z317, eV312, hu318, hu319, hu320, hu321, h322, h323⟩ := hq_o11 hP.1 h_t
        refine hp_get (v := .ref (u313)) hx hb hts hown hZ eV312 fl_X6_14 rfl dX6_makeAt_49 ?_
        refine lv_iload_n hx hb dX6_makeAt_52 rfl (lv_at hl 3 rfl) ?_
        refine lv_iload_n hx hb dX6_makeAt_53 rfl (lv_at hl 4 rfl) ?_
        refine lv_iload hx hb dX6_makeAt_54 (lv_at hl 5 rfl) ?_
        refine hp_callv (hp_runV (As := [.ref (u), .ref (u313), .int (v), .int (te), .int (pe)]) (rest := []) hx hb hml hown hts (t_X6_makePlain l D cs B G  V76 n hP.1 b 4 (t) h_t (u) h_u (u313) hu318 (v) (te) (pe) (by omega) (by omega)) hZ eV312 cv_X6_39 rfl rfl ⟨Nat.le_of_ble_eq_true rfl, Nat.le_of_ble_eq_true rfl⟩ rfl hl.1 rfl (Nat.le_of_ble_eq_true rfl) dX6_makeAt_56 ⟨(Nat.le_of_ble_eq_true rfl), (Nat.le_of_ble_eq_true rfl)⟩) hZ (fun V324 n325 _ _ hw326 hZ => ?_)
        obtain ⟨rfl, hq328⟩ := hw326
        have hP := hP.trans hq328 (by intro g h; simp_all)
        exact hp_vret hx hb hr hlocks hZ ⟨rfl, hP⟩ dX6_makeAt_59

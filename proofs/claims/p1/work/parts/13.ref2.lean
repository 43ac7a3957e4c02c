set_option maxHeartbeats 4000000 in
set_option maxRecDepth 100000 in
theorem r_feed (l : Launch) (D : va_G) (cs : Nat → ClassId) (B : Nat) (V : hp_V) (n : Nat) (a q : Nat) (haq : a < q) (hF : fx_M cs a q V) (u v w y z : Int32) : hp_M l yX13_feed cX13_feed 6 (some .int) ({ frames := 2, cells := 0, slots := 0, locals := 43 }) D cs B V n [.ref (a), .int (u), .int (v), .int (w), .int (y), .int (z)] (hp_QI D cs B (fun r V' n' => r = 20)) 0 (0) := by
  refine hp_walk (R0 := RX13) (by decide) rfl ?_ (Nat.le_of_ble_eq_true rfl)
  intro p e s m below meth c ls hx hb hr hts hown hlocks hin hml hZ hl
  have hl : lv_has ls 6 [(0, .ref (a)), (1, .int (u)), (2, .int (v)), (3, .int (w)), (4, .int (y)), (5, .int (z))] := hl
  obtain ⟨h_a, h_classes, h_verbs, h_lines, h_className, h_verbName, h_first, h_second, h_classSize, h_verbSize, h_classOf, h_kind, h_whose, h_tense, h_person, h_firstSize, h_secondSize, h_helper, h_helperTense, h_part, h_tape, h_word, h_spare, h_did, h_before, h_form, h_helpForm, h_partForm, h_formSize, h_row, h_rowSize, h_helpSize, h_partSize, h_helpRow, h_partRow, h_helpRowSize, h_partRowSize, h_asked, h_foundVerb, h_foundTense, h_foundPerson, h_uses, ⟨g_misses, h_misses⟩, ⟨g_latest, h_latest⟩, h_changeWhat, h_changeMissed, h_changeTaken⟩ := hF
  refine lv_aload_n hx hb dX13_feed_0 rfl (lv_at hl 0 rfl) ?_
  refine hp_get (v := .int (0)) hx hb hts hown hZ h_a fl_X13_295 rfl dX13_feed_1 ?_
  refine lv_bipush (v := 20) hx hb dX13_feed_4 (by decide) ?_
  refine lv_iadd hx hb dX13_feed_6 ?_
  refine lv_sipush (v := 4000) hx hb dX13_feed_7 (by decide) ?_
  refine lv_icmp_le (tgt := 16) hx hb dX13_feed_10 (by decide) (fun c1 => ?_) (fun c1 => absurd (by decide) c1)
  have fx2 : V a = some (.inr (13, mo q (nI 0) (0) (0) (0) (0) (0) (-1) (0) (0) (0) (0) (0) (0) (0) (0) (0) (0) (0) (0))) := by rw [nI_0]; exact h_a
  refine lv_aload_n hx hb dX13_feed_16 rfl (lv_at hl 0 rfl) ?_
  refine lv_iload_n hx hb dX13_feed_17 rfl (lv_at hl 1 rfl) ?_
  refine hp_callv (hp_runV (As := [.int (u)]) (rest := []) hx hb hml hown hts (c_X13_lay0 l D cs B V (n) a q 0 haq _ _ _ _ _ _ _ _ _ _ _ _ _ _ _ _ _ _ u _ (by decide) fx2 h_tape) hZ fx2 cv_X13_298 rfl rfl ⟨Nat.le_of_ble_eq_true rfl, Nat.le_of_ble_eq_true rfl⟩ rfl hl.1 rfl (Nat.le_of_ble_eq_true rfl) dX13_feed_18 ⟨(Nat.le_of_ble_eq_true rfl), (Nat.le_of_ble_eq_true rfl)⟩) hZ (fun V3 n4 _ _ hw5 hZ => ?_)
  obtain ⟨hn7, fx9, ⟨g11, fx10⟩, fr8⟩ := hw5
  have hn7 : n = n4 := hn7.symm
  subst hn7
  refine lv_aload_n hx hb dX13_feed_21 rfl (lv_at hl 0 rfl) ?_
  refine lv_iload_n hx hb dX13_feed_22 rfl (lv_at hl 2 rfl) ?_
  refine hp_callv (hp_runV (As := [.int (v)]) (rest := []) hx hb hml hown hts (c_X13_lay0 l D cs B V3 (n) a q 4 haq _ _ _ _ _ _ _ _ _ _ _ _ _ _ _ _ _ _ v _ (by decide) fx9 fx10) hZ fx9 cv_X13_298 rfl rfl ⟨Nat.le_of_ble_eq_true rfl, Nat.le_of_ble_eq_true rfl⟩ rfl hl.1 rfl (Nat.le_of_ble_eq_true rfl) dX13_feed_23 ⟨(Nat.le_of_ble_eq_true rfl), (Nat.le_of_ble_eq_true rfl)⟩) hZ (fun V12 n13 _ _ hw14 hZ => ?_)
  obtain ⟨hn16, fx18, ⟨g20, fx19⟩, fr17⟩ := hw14
  have hn16 : n = n13 := hn16.symm
  subst hn16
  refine lv_aload_n hx hb dX13_feed_26 rfl (lv_at hl 0 rfl) ?_
  refine lv_iload_n hx hb dX13_feed_27 rfl (lv_at hl 3 rfl) ?_
  refine hp_callv (hp_runV (As := [.int (w)]) (rest := []) hx hb hml hown hts (c_X13_lay0 l D cs B V12 (n) a q 8 haq _ _ _ _ _ _ _ _ _ _ _ _ _ _ _ _ _ _ w _ (by decide) fx18 fx19) hZ fx18 cv_X13_298 rfl rfl ⟨Nat.le_of_ble_eq_true rfl, Nat.le_of_ble_eq_true rfl⟩ rfl hl.1 rfl (Nat.le_of_ble_eq_true rfl) dX13_feed_28 ⟨(Nat.le_of_ble_eq_true rfl), (Nat.le_of_ble_eq_true rfl)⟩) hZ (fun V21 n22 _ _ hw23 hZ => ?_)
  obtain ⟨hn25, fx27, ⟨g29, fx28⟩, fr26⟩ := hw23
  have hn25 : n = n22 := hn25.symm
  subst hn25
  refine lv_aload_n hx hb dX13_feed_31 rfl (lv_at hl 0 rfl) ?_
  refine lv_iload hx hb dX13_feed_32 (lv_at hl 4 rfl) ?_
  refine hp_callv (hp_runV (As := [.int (y)]) (rest := []) hx hb hml hown hts (c_X13_lay0 l D cs B V21 (n) a q 12 haq _ _ _ _ _ _ _ _ _ _ _ _ _ _ _ _ _ _ y _ (by decide) fx27 fx28) hZ fx27 cv_X13_298 rfl rfl ⟨Nat.le_of_ble_eq_true rfl, Nat.le_of_ble_eq_true rfl⟩ rfl hl.1 rfl (Nat.le_of_ble_eq_true rfl) dX13_feed_34 ⟨(Nat.le_of_ble_eq_true rfl), (Nat.le_of_ble_eq_true rfl)⟩) hZ (fun V30 n31 _ _ hw32 hZ => ?_)
  obtain ⟨hn34, fx36, ⟨g38, fx37⟩, fr35⟩ := hw32
  have hn34 : n = n31 := hn34.symm
  subst hn34
  refine lv_aload_n hx hb dX13_feed_37 rfl (lv_at hl 0 rfl) ?_
  refine lv_iload hx hb dX13_feed_38 (lv_at hl 5 rfl) ?_
  refine hp_callv (hp_runV (As := [.int (z)]) (rest := []) hx hb hml hown hts (c_X13_lay0 l D cs B V30 (n) a q 16 haq _ _ _ _ _ _ _ _ _ _ _ _ _ _ _ _ _ _ z _ (by decide) fx36 fx37) hZ fx36 cv_X13_298 rfl rfl ⟨Nat.le_of_ble_eq_true rfl, Nat.le_of_ble_eq_true rfl⟩ rfl hl.1 rfl (Nat.le_of_ble_eq_true rfl) dX13_feed_40 ⟨(Nat.le_of_ble_eq_true rfl), (Nat.le_of_ble_eq_true rfl)⟩) hZ (fun V39 n40 _ _ hw41 hZ => ?_)
  obtain ⟨hn43, fx45, ⟨g47, fx46⟩, fr44⟩ := hw41
  have hn43 : n = n40 := hn43.symm
  subst hn43
  refine lv_aload_n hx hb dX13_feed_43 rfl (lv_at hl 0 rfl) ?_
  refine hp_get (v := .int (nI 20)) hx hb hts hown hZ fx45 fl_X13_295 rfl dX13_feed_44 ?_
  exact hp_iret hx hb hr hlocks hZ (by decide) dX13_feed_47

set_option maxHeartbeats 4000000 in
set_option maxRecDepth 100000 in
theorem r_end (l : Launch) (D : va_G) (cs : Nat → ClassId) (B : Nat) (V : hp_V) (n : Nat) (a q : Nat) (haq : a < q) (hF : fx_M cs a q V) (k : Int32) : hp_M l yX13_end cX13_end 2 (some .int) ({ frames := 2, cells := 0, slots := 0, locals := 46 }) D cs B V n [.ref (a), .int (k)] (hp_QI D cs B (fun r V' n' => (k = 0 → r = 0) ∧ (k ≠ 0 → r = -1))) 0 (0) := by
  refine hp_walk (R0 := RX13) (by decide) rfl ?_ (Nat.le_of_ble_eq_true rfl)
  intro p e s m below meth c ls hx hb hr hts hown hlocks hin hml hZ hl
  have hl : lv_has ls 2 [(0, .ref (a)), (1, .int (k))] := hl
  obtain ⟨h_a, h_classes, h_verbs, h_lines, h_className, h_verbName, h_first, h_second, h_classSize, h_verbSize, h_classOf, h_kind, h_whose, h_tense, h_person, h_firstSize, h_secondSize, h_helper, h_helperTense, h_part, h_tape, h_word, h_spare, h_did, h_before, h_form, h_helpForm, h_partForm, h_formSize, h_row, h_rowSize, h_helpSize, h_partSize, h_helpRow, h_partRow, h_helpRowSize, h_partRowSize, h_asked, h_foundVerb, h_foundTense, h_foundPerson, h_uses, ⟨g_misses, h_misses⟩, ⟨g_latest, h_latest⟩, h_changeWhat, h_changeMissed, h_changeTaken⟩ := hF
  refine lv_iload_n hx hb dX13_end_0 rfl (lv_at hl 1 rfl) ?_
  refine lv_i2l (v := (k).toInt64) hx hb dX13_end_1 rfl ?_
  refine lv_lconst (v := 0) hx hb dX13_end_2 (by decide) ?_
  refine lv_aload_n hx hb dX13_end_3 rfl (lv_at hl 0 rfl) ?_
  refine hp_get (v := .int (0)) hx hb hts hown hZ h_a fl_X13_295 rfl dX13_end_4 ?_
  refine lv_i2l (v := (0 : Int32).toInt64) hx hb dX13_end_7 rfl ?_
  refine hp_calli (hp_runS (As := [.long ((k).toInt64), .long (0), .long ((0 : Int32).toInt64)]) (rest := []) hx hb hml hown hts (c_X13_in l D cs B V (n) (k).toInt64 0 (0 : Int32).toInt64) hZ cv_X13_301 rfl rfl ⟨Nat.le_of_ble_eq_true rfl, Nat.le_of_ble_eq_true rfl⟩ rfl hl.1 rfl (Nat.le_of_ble_eq_true rfl) dX13_end_8 ⟨(Nat.le_of_ble_eq_true rfl), (Nat.le_of_ble_eq_true rfl)⟩) hZ (fun r4 V1 n2 _ _ hw3 hZ => ?_)
  obtain ⟨rfl, rfl, h5⟩ := hw3
  rcases h5 with ⟨y6, y7, rfl⟩ | ⟨y8, rfl⟩
  · refine lv_if_ne (tgt := 16) hx hb dX13_end_11 (by decide) (fun c9 => ?_) (fun c9 => absurd c9 (by decide))
    refine lv_aload_n hx hb dX13_end_16 rfl (lv_at hl 0 rfl) ?_
    refine lv_iload_n hx hb dX13_end_17 rfl (lv_at hl 1 rfl) ?_
    refine hp_put hx hb hts hown hZ h_a fp_X13_295 rfl rfl (Nat.le_of_ble_eq_true rfl) dX13_end_18 (fun V10 _ _ e11 o12 hZ => ?_)
    have e11 : V10 (a) = some (.inr (13, mo q (k) (0) (0) (0) (0) (0) (-1) (0) (0) (0) (0) (0) (0) (0) (0) (0) (0) (0) (0))) := e11
    refine lv_iload_n hx hb dX13_end_21 rfl (lv_at hl 1 rfl) ?_
    exact hp_iret hx hb hr hlocks hZ ⟨fun h9 => h9, fun h9 => absurd (hq_w00 y6 y7) h9⟩ dX13_end_22
  · refine lv_if_ne (tgt := 16) hx hb dX13_end_11 (by decide) (fun c13 => absurd (by decide) c13) (fun c13 => ?_)
    refine lv_iconst (v := -1) hx hb dX13_end_14 (by decide) ?_
    exact hp_iret hx hb hr hlocks hZ ⟨fun h9 => by subst h9; exact absurd ⟨by decide, by decide⟩ y8, fun _ => rfl⟩ dX13_end_15

set_option maxHeartbeats 4000000 in
set_option maxRecDepth 100000 in
theorem r_book (l : Launch) (D : va_G) (cs : Nat → ClassId) (B : Nat) (V : hp_V) (n : Nat) (a q : Nat) (haq : a < q) (hF : fx_M cs a q V) : hp_MW l yX13_book cX13_book 2 (some .int) [(23, 27, 30, 210)] ({ frames := 4, cells := 0, slots := 0, locals := 84 }) D cs B V n [.ref (a)] (hp_QI D cs B (fun r V' n' => r = 0)) 0 (0) := by
  refine hp_walkW (R0 := RX13) (by decide) rfl ?_ (Nat.le_of_ble_eq_true rfl)
  intro p e s m below meth c ls hx hb hr hts hown hlocks hin hml hZ hl
  have hl : lv_has ls 2 [(0, .ref (a))] := hl
  obtain ⟨h_a, h_classes, h_verbs, h_lines, h_className, h_verbName, h_first, h_second, h_classSize, h_verbSize, h_classOf, h_kind, h_whose, h_tense, h_person, h_firstSize, h_secondSize, h_helper, h_helperTense, h_part, h_tape, h_word, h_spare, h_did, h_before, h_form, h_helpForm, h_partForm, h_formSize, h_row, h_rowSize, h_helpSize, h_partSize, h_helpRow, h_partRow, h_helpRowSize, h_partRowSize, h_asked, h_foundVerb, h_foundTense, h_foundPerson, h_uses, ⟨g_misses, h_misses⟩, ⟨g_latest, h_latest⟩, h_changeWhat, h_changeMissed, h_changeTaken⟩ := hF
  refine lv_aload_n hx hb dX13_book_0 rfl (lv_at hl 0 rfl) ?_
  refine lv_aload_n hx hb dX13_book_1 rfl (lv_at hl 0 rfl) ?_
  refine hp_get (v := .int (0)) hx hb hts hown hZ h_a fl_X13_295 rfl dX13_book_2 ?_
  refine hp_put hx hb hts hown hZ h_a fp_X13_70 rfl rfl (Nat.le_of_ble_eq_true rfl) dX13_book_5 (fun V1 _ _ e2 o3 hZ => ?_)
  have e2 : V1 (a) = some (.inr (13, mo q (0) (0) (0) (0) (0) (0) (-1) (0) (0) (0) (0) (0) (0) (0) (0) (0) (0) (0) (0))) := e2
  refine lv_aload_n hx hb dX13_book_8 rfl (lv_at hl 0 rfl) ?_
  refine lv_iconst (v := 0) hx hb dX13_book_9 (by decide) ?_
  refine hp_put hx hb hts hown hZ e2 fp_X13_295 rfl rfl (Nat.le_of_ble_eq_true rfl) dX13_book_10 (fun V4 _ _ e5 o6 hZ => ?_)
  have e5 : V4 (a) = some (.inr (13, mo q (0) (0) (0) (0) (0) (0) (-1) (0) (0) (0) (0) (0) (0) (0) (0) (0) (0) (0) (0))) := e5
  refine lv_aload_n hx hb dX13_book_13 rfl (lv_at hl 0 rfl) ?_
  refine lv_iconst (v := 0) hx hb dX13_book_14 (by decide) ?_
  refine hp_put hx hb hts hown hZ e5 fp_X13_56 rfl rfl (Nat.le_of_ble_eq_true rfl) dX13_book_15 (fun V7 _ _ e8 o9 hZ => ?_)
  have e8 : V7 (a) = some (.inr (13, mo q (0) (0) (0) (0) (0) (0) (-1) (0) (0) (0) (0) (0) (0) (0) (0) (0) (0) (0) (0))) := e8
  refine lv_aload_n hx hb dX13_book_18 rfl (lv_at hl 0 rfl) ?_
  refine lv_iconst (v := -1) hx hb dX13_book_19 (by decide) ?_
  refine hp_put hx hb hts hown hZ e8 fp_X13_63 rfl rfl (Nat.le_of_ble_eq_true rfl) dX13_book_20 (fun V10 _ _ e11 o12 hZ => ?_)
  have e11 : V10 (a) = some (.inr (13, mo q (0) (0) (0) (0) (0) (0) (-1) (0) (0) (0) (0) (0) (0) (0) (0) (0) (0) (0) (0))) := e11
  refine lv_aload_n hx hb dX13_book_23 rfl (lv_at hl 0 rfl) ?_
  have fx26 := (o12 (q) (hq_lt haq 0).symm).trans ((o9 (q) (hq_lt haq 0).symm).trans ((o6 (q) (hq_lt haq 0).symm).trans ((o3 (q) (hq_lt haq 0).symm).trans (h_classes))))
  have fx26 : V10 (q) = some (.inl (cs 1, 2, .inl (fun _ => 0))) := fx26
  have fx27 := (o12 (q + 1) (hq_lt haq 1).symm).trans ((o9 (q + 1) (hq_lt haq 1).symm).trans ((o6 (q + 1) (hq_lt haq 1).symm).trans ((o3 (q + 1) (hq_lt haq 1).symm).trans (h_verbs))))
  have fx27 : V10 (q + 1) = some (.inl (cs 1, 2, .inl (fun _ => 0))) := fx27
  have fx28 := (o12 (q + 2) (hq_lt haq 2).symm).trans ((o9 (q + 2) (hq_lt haq 2).symm).trans ((o6 (q + 2) (hq_lt haq 2).symm).trans ((o3 (q + 2) (hq_lt haq 2).symm).trans (h_lines))))
  have fx28 : V10 (q + 2) = some (.inl (cs 1, 2, .inl (fun _ => 0))) := fx28
  refine hp_callv (hp_runV (As := []) (rest := []) hx hb hml hown hts (c_X13_readBook0 l D cs B V10 (n) a q haq _ _ _ _ _ _ _ _ _ _ _ _ _ _ _ _ _ _ e11 fx26 fx27 fx28) hZ e11 cv_X13_304 rfl rfl ⟨Nat.le_of_ble_eq_true rfl, Nat.le_of_ble_eq_true rfl⟩ rfl hl.1 rfl (Nat.le_of_ble_eq_true rfl) dX13_book_24 ⟨(Nat.le_of_ble_eq_true rfl), (Nat.le_of_ble_eq_true rfl)⟩) hZ (fun V13 n14 _ _ hw15 hZ => ?_)
  obtain ⟨hn16, fx17, ⟨g18, fx19⟩, ⟨g20, fx21⟩, ⟨g22, fx23, h24⟩, fr25⟩ := hw15
  have hn16 : n = n14 := hn16.symm
  subst hn16
  refine lv_goto (tgt := 33) hx hb dX13_book_27 (by decide) ?_
  refine lv_aload_n hx hb dX13_book_33 rfl (lv_at hl 0 rfl) ?_
  have fx38 := (fr25 (q + 8) (by omega)).trans ((o12 (q + 8) (hq_lt haq 8).symm).trans ((o9 (q + 8) (hq_lt haq 8).symm).trans ((o6 (q + 8) (hq_lt haq 8).symm).trans ((o3 (q + 8) (hq_lt haq 8).symm).trans (h_verbSize)))))
  have fx38 : V13 (q + 8) = some (.inl (cs 1, 60, .inl (fun _ => 0))) := fx38
  have fx39 := (fr25 (q + 9) (by omega)).trans ((o12 (q + 9) (hq_lt haq 9).symm).trans ((o9 (q + 9) (hq_lt haq 9).symm).trans ((o6 (q + 9) (hq_lt haq 9).symm).trans ((o3 (q + 9) (hq_lt haq 9).symm).trans (h_classOf)))))
  have fx39 : V13 (q + 9) = some (.inl (cs 1, 60, .inl (fun _ => 0))) := fx39
  have fx40 := (fr25 (q + 4) (by omega)).trans ((o12 (q + 4) (hq_lt haq 4).symm).trans ((o9 (q + 4) (hq_lt haq 4).symm).trans ((o6 (q + 4) (hq_lt haq 4).symm).trans ((o3 (q + 4) (hq_lt haq 4).symm).trans (h_verbName)))))
  have fx40 : V13 (q + 4) = some (.inl (cs 0, 720, .inl (fun _ => 0))) := fx40
  have fx41 := (fr25 (q + 5) (by omega)).trans ((o12 (q + 5) (hq_lt haq 5).symm).trans ((o9 (q + 5) (hq_lt haq 5).symm).trans ((o6 (q + 5) (hq_lt haq 5).symm).trans ((o3 (q + 5) (hq_lt haq 5).symm).trans (h_first)))))
  have fx41 : V13 (q + 5) = some (.inl (cs 0, 960, .inl (fun _ => 0))) := fx41
  have fx42 := (fr25 (q + 6) (by omega)).trans ((o12 (q + 6) (hq_lt haq 6).symm).trans ((o9 (q + 6) (hq_lt haq 6).symm).trans ((o6 (q + 6) (hq_lt haq 6).symm).trans ((o3 (q + 6) (hq_lt haq 6).symm).trans (h_second)))))
  have fx42 : V13 (q + 6) = some (.inl (cs 0, 960, .inl (fun _ => 0))) := fx42
  have fx43 := (fr25 (q + 10) (by omega)).trans ((o12 (q + 10) (hq_lt haq 10).symm).trans ((o9 (q + 10) (hq_lt haq 10).symm).trans ((o6 (q + 10) (hq_lt haq 10).symm).trans ((o3 (q + 10) (hq_lt haq 10).symm).trans (h_kind)))))
  have fx43 : V13 (q + 10) = some (.inl (cs 1, 120, .inl (fun _ => 0))) := fx43
  have fx44 := (fr25 (q + 11) (by omega)).trans ((o12 (q + 11) (hq_lt haq 11).symm).trans ((o9 (q + 11) (hq_lt haq 11).symm).trans ((o6 (q + 11) (hq_lt haq 11).symm).trans ((o3 (q + 11) (hq_lt haq 11).symm).trans (h_whose)))))
  have fx44 : V13 (q + 11) = some (.inl (cs 1, 120, .inl (fun _ => 0))) := fx44
  have fx45 := (fr25 (q + 12) (by omega)).trans ((o12 (q + 12) (hq_lt haq 12).symm).trans ((o9 (q + 12) (hq_lt haq 12).symm).trans ((o6 (q + 12) (hq_lt haq 12).symm).trans ((o3 (q + 12) (hq_lt haq 12).symm).trans (h_tense)))))
  have fx45 : V13 (q + 12) = some (.inl (cs 1, 120, .inl (fun _ => 0))) := fx45
  have fx46 := (fr25 (q + 13) (by omega)).trans ((o12 (q + 13) (hq_lt haq 13).symm).trans ((o9 (q + 13) (hq_lt haq 13).symm).trans ((o6 (q + 13) (hq_lt haq 13).symm).trans ((o3 (q + 13) (hq_lt haq 13).symm).trans (h_person)))))
  have fx46 : V13 (q + 13) = some (.inl (cs 1, 120, .inl (fun _ => 0))) := fx46
  have fx47 := (fr25 (q + 14) (by omega)).trans ((o12 (q + 14) (hq_lt haq 14).symm).trans ((o9 (q + 14) (hq_lt haq 14).symm).trans ((o6 (q + 14) (hq_lt haq 14).symm).trans ((o3 (q + 14) (hq_lt haq 14).symm).trans (h_firstSize)))))
  have fx47 : V13 (q + 14) = some (.inl (cs 1, 120, .inl (fun _ => 0))) := fx47
  have fx48 := (fr25 (q + 15) (by omega)).trans ((o12 (q + 15) (hq_lt haq 15).symm).trans ((o9 (q + 15) (hq_lt haq 15).symm).trans ((o6 (q + 15) (hq_lt haq 15).symm).trans ((o3 (q + 15) (hq_lt haq 15).symm).trans (h_secondSize)))))
  have fx48 : V13 (q + 15) = some (.inl (cs 1, 120, .inl (fun _ => 0))) := fx48
  have fx49 := (fr25 (q + 16) (by omega)).trans ((o12 (q + 16) (hq_lt haq 16).symm).trans ((o9 (q + 16) (hq_lt haq 16).symm).trans ((o6 (q + 16) (hq_lt haq 16).symm).trans ((o3 (q + 16) (hq_lt haq 16).symm).trans (h_helper)))))
  have fx49 : V13 (q + 16) = some (.inl (cs 1, 120, .inl (fun _ => 0))) := fx49
  have fx50 := (fr25 (q + 17) (by omega)).trans ((o12 (q + 17) (hq_lt haq 17).symm).trans ((o9 (q + 17) (hq_lt haq 17).symm).trans ((o6 (q + 17) (hq_lt haq 17).symm).trans ((o3 (q + 17) (hq_lt haq 17).symm).trans (h_helperTense)))))
  have fx50 : V13 (q + 17) = some (.inl (cs 1, 120, .inl (fun _ => 0))) := fx50
  have fx51 := (fr25 (q + 18) (by omega)).trans ((o12 (q + 18) (hq_lt haq 18).symm).trans ((o9 (q + 18) (hq_lt haq 18).symm).trans ((o6 (q + 18) (hq_lt haq 18).symm).trans ((o3 (q + 18) (hq_lt haq 18).symm).trans (h_part)))))
  have fx51 : V13 (q + 18) = some (.inl (cs 1, 120, .inl (fun _ => 0))) := fx51
  refine hp_callv (hp_runV (As := []) (rest := []) hx hb hml hown hts (c_X13_become0 l D cs B V13 (n) a q haq _ _ _ _ _ _ _ _ _ _ _ _ _ _ _ _ _ _ _ _ _ _ _ _ _ _ _ _ _ _ _ _ _ _ _ _ fx17 fx19 fx21 fx23 fx38 fx39 fx40 fx41 fx42 fx43 fx44 fx45 fx46 fx47 fx48 fx49 fx50 fx51) hZ fx17 cv_X13_307 rfl rfl ⟨Nat.le_of_ble_eq_true rfl, Nat.le_of_ble_eq_true rfl⟩ rfl hl.1 rfl (Nat.le_of_ble_eq_true rfl) dX13_book_34 ⟨(Nat.le_of_ble_eq_true rfl), (Nat.le_of_ble_eq_true rfl)⟩) hZ (fun V29 n30 _ _ hw31 hZ => ?_)
  obtain ⟨hn32, fx33, ⟨g34, fx35, h36⟩, fr37⟩ := hw31
  have hn32 : n = n30 := hn32.symm
  subst hn32
  refine lv_aload_n hx hb dX13_book_37 rfl (lv_at hl 0 rfl) ?_
  have fx58 := (fr37 (q + 42) (by omega)).trans ((fr25 (q + 42) (by omega)).trans ((o12 (q + 42) (hq_lt haq 42).symm).trans ((o9 (q + 42) (hq_lt haq 42).symm).trans ((o6 (q + 42) (hq_lt haq 42).symm).trans ((o3 (q + 42) (hq_lt haq 42).symm).trans (h_misses))))))
  have fx58 : V29 (q + 42) = some (.inl (cs 1, 480, .inl (g_misses))) := fx58
  have fx59 := (fr37 (q + 43) (by omega)).trans ((fr25 (q + 43) (by omega)).trans ((o12 (q + 43) (hq_lt haq 43).symm).trans ((o9 (q + 43) (hq_lt haq 43).symm).trans ((o6 (q + 43) (hq_lt haq 43).symm).trans ((o3 (q + 43) (hq_lt haq 43).symm).trans (h_latest))))))
  have fx59 : V29 (q + 43) = some (.inl (cs 1, 24, .inl (g_latest))) := fx59
  refine hp_callv (hp_runV (As := []) (rest := []) hx hb hml hown hts (c_X13_forget l D cs B V29 (n) a (q + 42) (q + 43) _ rfl rfl (hq_lt haq 42) (hq_lt haq 43) (hq_ne q 42 43 (by decide)) _ _ fx33 fx58 fx59) hZ fx33 cv_X13_292 rfl rfl ⟨Nat.le_of_ble_eq_true rfl, Nat.le_of_ble_eq_true rfl⟩ rfl hl.1 rfl (Nat.le_of_ble_eq_true rfl) dX13_book_38 ⟨(Nat.le_of_ble_eq_true rfl), (Nat.le_of_ble_eq_true rfl)⟩) hZ (fun V52 n53 _ _ hw54 hZ => ?_)
  obtain ⟨hn56, ⟨g61, fx60⟩, ⟨g63, fx62⟩, fr57⟩ := hw54
  have hn56 : n = n53 := hn56.symm
  subst hn56
  refine lv_aload_n hx hb dX13_book_41 rfl (lv_at hl 0 rfl) ?_
  refine lv_iconst (v := 0) hx hb dX13_book_42 (by decide) ?_
  have fx64 := (fr57 (a) (hq_lt haq 42) (hq_lt haq 43)).trans (fx33)
  have fx64 : V52 (a) = some (.inr (13, mo q (0) (0) (0) (0) (0) (0) (-1) (0) (0) (0) (0) (0) (0) (0) (0) (0) (0) (0) (0))) := fx64
  refine hp_put hx hb hts hown hZ fx64 fp_X13_310 rfl rfl (Nat.le_of_ble_eq_true rfl) dX13_book_43 (fun V65 _ _ e66 o67 hZ => ?_)
  have e66 : V65 (a) = some (.inr (13, mo q (0) (0) (0) (0) (0) (0) (-1) (0) (0) (0) (0) (0) (0) (0) (0) (0) (0) (0) (0))) := e66
  refine lv_aload_n hx hb dX13_book_46 rfl (lv_at hl 0 rfl) ?_
  refine lv_iconst (v := 0) hx hb dX13_book_47 (by decide) ?_
  refine hp_put hx hb hts hown hZ e66 fp_X13_313 rfl rfl (Nat.le_of_ble_eq_true rfl) dX13_book_48 (fun V68 _ _ e69 o70 hZ => ?_)
  have e69 : V68 (a) = some (.inr (13, mo q (0) (0) (0) (0) (0) (0) (-1) (0) (0) (0) (0) (0) (0) (0) (0) (0) (0) (0) (0))) := e69
  refine lv_aload_n hx hb dX13_book_51 rfl (lv_at hl 0 rfl) ?_
  refine hp_get (v := .ref (q + 2)) hx hb hts hown hZ e69 fl_X13_10 rfl dX13_book_52 ?_
  refine lv_iconst (v := 0) hx hb dX13_book_55 (by decide) ?_
  have fx71 := (o70 (q + 2) (hq_lt haq 2).symm).trans ((o67 (q + 2) (hq_lt haq 2).symm).trans ((fr57 (q + 2) (hq_ne q 2 42 (by decide)) (hq_ne q 2 43 (by decide))).trans (fx35)))
  have fx71 : V68 (q + 2) = some (.inl (cs 1, 2, .inl (g34))) := fx71
  refine hp_iald hx hb hZ fx71 (by unfold vp_in; decide) dX13_book_56 ?_
  exact hp_iret hx hb hr hlocks hZ (h36.trans h24) dX13_book_57

set_option maxHeartbeats 4000000 in
set_option maxRecDepth 100000 in
theorem r_fault (l : Launch) (D : va_G) (cs : Nat → ClassId) (B : Nat) (V : hp_V) (n : Nat) (a q : Nat) (haq : a < q) (hF : fx_M cs a q V) (k : Int32) : hp_M l yX13_fault cX13_fault 2 (some .int) ({ frames := 1, cells := 0, slots := 0, locals := 21 }) D cs B V n [.ref (a), .int (k)] (hp_QI D cs B (fun r V' n' => (k = 0 → r = 0) ∧ (k ≠ 0 → r = -1))) 0 (0) := by
  refine hp_walk (R0 := RX13) (by decide) rfl ?_ (Nat.le_of_ble_eq_true rfl)
  intro p e s m below meth c ls hx hb hr hts hown hlocks hin hml hZ hl
  have hl : lv_has ls 2 [(0, .ref (a)), (1, .int (k))] := hl
  obtain ⟨h_a, h_classes, h_verbs, h_lines, h_className, h_verbName, h_first, h_second, h_classSize, h_verbSize, h_classOf, h_kind, h_whose, h_tense, h_person, h_firstSize, h_secondSize, h_helper, h_helperTense, h_part, h_tape, h_word, h_spare, h_did, h_before, h_form, h_helpForm, h_partForm, h_formSize, h_row, h_rowSize, h_helpSize, h_partSize, h_helpRow, h_partRow, h_helpRowSize, h_partRowSize, h_asked, h_foundVerb, h_foundTense, h_foundPerson, h_uses, ⟨g_misses, h_misses⟩, ⟨g_latest, h_latest⟩, h_changeWhat, h_changeMissed, h_changeTaken⟩ := hF
  refine lv_iload_n hx hb dX13_fault_0 rfl (lv_at hl 1 rfl) ?_
  refine lv_if_ne (tgt := 11) hx hb dX13_fault_1 (by decide) (fun c1 => ?_) (fun c1 => ?_)
  · refine lv_iload_n hx hb dX13_fault_11 rfl (lv_at hl 1 rfl) ?_
    refine lv_iconst (v := 1) hx hb dX13_fault_12 (by decide) ?_
    refine lv_icmp_ne (tgt := 23) hx hb dX13_fault_13 (by decide) (fun c2 => ?_) (fun c2 => ?_)
    · refine lv_iconst (v := -1) hx hb dX13_fault_23 (by decide) ?_
      exact hp_iret hx hb hr hlocks hZ ⟨fun h9 => absurd h9 c1, fun _ => rfl⟩ dX13_fault_24
    · refine lv_aload_n hx hb dX13_fault_16 rfl (lv_at hl 0 rfl) ?_
      refine hp_get (v := .int (-1)) hx hb hts hown hZ h_a fl_X13_63 rfl dX13_fault_17 ?_
      refine lv_goto (tgt := 24) hx hb dX13_fault_20 (by decide) ?_
      exact hp_iret hx hb hr hlocks hZ ⟨fun h9 => absurd h9 c1, fun _ => rfl⟩ dX13_fault_24
  · refine lv_aload_n hx hb dX13_fault_4 rfl (lv_at hl 0 rfl) ?_
    refine hp_get (v := .int (0)) hx hb hts hown hZ h_a fl_X13_56 rfl dX13_fault_5 ?_
    refine lv_goto (tgt := 24) hx hb dX13_fault_8 (by decide) ?_
    exact hp_iret hx hb hr hlocks hZ ⟨fun _ => rfl, fun h9 => absurd c1 h9⟩ dX13_fault_24

set_option maxHeartbeats 4000000 in
set_option maxRecDepth 100000 in
theorem r_verb (l : Launch) (D : va_G) (cs : Nat → ClassId) (B : Nat) (V : hp_V) (n : Nat) (a q : Nat) (haq : a < q) (hF : fx_M cs a q V) (k u : Int32) : hp_M l yX13_verb cX13_verb 3 (some .int) ({ frames := 3, cells := 0, slots := 0, locals := 67 }) D cs B V n [.ref (a), .int (k), .int (u)] (hp_QI D cs B (fun r V' n' => r = -1)) 0 (0) := by
  refine hp_walk (R0 := RX13) (by decide) rfl ?_ (Nat.le_of_ble_eq_true rfl)
  intro p e s m below meth c ls hx hb hr hts hown hlocks hin hml hZ hl
  have hl : lv_has ls 3 [(0, .ref (a)), (1, .int (k)), (2, .int (u))] := hl
  obtain ⟨h_a, h_classes, h_verbs, h_lines, h_className, h_verbName, h_first, h_second, h_classSize, h_verbSize, h_classOf, h_kind, h_whose, h_tense, h_person, h_firstSize, h_secondSize, h_helper, h_helperTense, h_part, h_tape, h_word, h_spare, h_did, h_before, h_form, h_helpForm, h_partForm, h_formSize, h_row, h_rowSize, h_helpSize, h_partSize, h_helpRow, h_partRow, h_helpRowSize, h_partRowSize, h_asked, h_foundVerb, h_foundTense, h_foundPerson, h_uses, ⟨g_misses, h_misses⟩, ⟨g_latest, h_latest⟩, h_changeWhat, h_changeMissed, h_changeTaken⟩ := hF
  refine lv_aload_n hx hb dX13_verb_0 rfl (lv_at hl 0 rfl) ?_
  refine lv_iload_n hx hb dX13_verb_1 rfl (lv_at hl 1 rfl) ?_
  refine hp_calli (hp_runV (As := [.int (k)]) (rest := []) hx hb hml hown hts (c_X13_isVerb0 l D cs B V (n) (a) q _ _ _ _ _ _ _ _ _ _ _ _ _ _ _ _ _ _ _ k h_a h_verbs) hZ h_a cv_X13_317 rfl rfl ⟨Nat.le_of_ble_eq_true rfl, Nat.le_of_ble_eq_true rfl⟩ rfl hl.1 rfl (Nat.le_of_ble_eq_true rfl) dX13_verb_2 ⟨(Nat.le_of_ble_eq_true rfl), (Nat.le_of_ble_eq_true rfl)⟩) hZ (fun r4 V1 n2 _ _ hw3 hZ => ?_)
  obtain ⟨rfl, rfl, rfl⟩ := hw3
  refine lv_if_ne (tgt := 10) hx hb dX13_verb_5 (by decide) (fun c5 => absurd (by decide) c5) (fun c5 => ?_)
  refine lv_iconst (v := -1) hx hb dX13_verb_8 (by decide) ?_
  exact hp_iret hx hb hr hlocks hZ rfl dX13_verb_9

set_option maxHeartbeats 4000000 in
set_option maxRecDepth 100000 in
theorem r_line (l : Launch) (D : va_G) (cs : Nat → ClassId) (B : Nat) (V : hp_V) (n : Nat) (a q : Nat) (haq : a < q) (hF : fx_M cs a q V) (k u : Int32) : hp_M l yX13_line cX13_line 3 (some .int) ({ frames := 3, cells := 0, slots := 0, locals := 67 }) D cs B V n [.ref (a), .int (k), .int (u)] (hp_QI D cs B (fun r V' n' => r = -9)) 0 (0) := by
  refine hp_walk (R0 := RX13) (by decide) rfl ?_ (Nat.le_of_ble_eq_true rfl)
  intro p e s m below meth c ls hx hb hr hts hown hlocks hin hml hZ hl
  have hl : lv_has ls 3 [(0, .ref (a)), (1, .int (k)), (2, .int (u))] := hl
  obtain ⟨h_a, h_classes, h_verbs, h_lines, h_className, h_verbName, h_first, h_second, h_classSize, h_verbSize, h_classOf, h_kind, h_whose, h_tense, h_person, h_firstSize, h_secondSize, h_helper, h_helperTense, h_part, h_tape, h_word, h_spare, h_did, h_before, h_form, h_helpForm, h_partForm, h_formSize, h_row, h_rowSize, h_helpSize, h_partSize, h_helpRow, h_partRow, h_helpRowSize, h_partRowSize, h_asked, h_foundVerb, h_foundTense, h_foundPerson, h_uses, ⟨g_misses, h_misses⟩, ⟨g_latest, h_latest⟩, h_changeWhat, h_changeMissed, h_changeTaken⟩ := hF
  refine lv_aload_n hx hb dX13_line_0 rfl (lv_at hl 0 rfl) ?_
  refine lv_iload_n hx hb dX13_line_1 rfl (lv_at hl 1 rfl) ?_
  refine hp_calli (hp_runV (As := [.int (k)]) (rest := []) hx hb hml hown hts (c_X13_isLine0 l D cs B V (n) (a) q _ _ _ _ _ _ _ _ _ _ _ _ _ _ _ _ _ _ _ k h_a h_lines) hZ h_a cv_X13_324 rfl rfl ⟨Nat.le_of_ble_eq_true rfl, Nat.le_of_ble_eq_true rfl⟩ rfl hl.1 rfl (Nat.le_of_ble_eq_true rfl) dX13_line_2 ⟨(Nat.le_of_ble_eq_true rfl), (Nat.le_of_ble_eq_true rfl)⟩) hZ (fun r4 V1 n2 _ _ hw3 hZ => ?_)
  obtain ⟨rfl, rfl, rfl⟩ := hw3
  refine lv_if_ne (tgt := 11) hx hb dX13_line_5 (by decide) (fun c5 => absurd (by decide) c5) (fun c5 => ?_)
  refine lv_bipush (v := -9) hx hb dX13_line_8 (by decide) ?_
  exact hp_iret hx hb hr hlocks hZ rfl dX13_line_10

set_option maxHeartbeats 4000000 in
set_option maxRecDepth 100000 in
theorem r_forms (l : Launch) (D : va_G) (cs : Nat → ClassId) (B : Nat) (V : hp_V) (n : Nat) (a q : Nat) (haq : a < q) (hF : fx_M cs a q V) (u v w : Int32) : hp_M l yX13_forms cX13_forms 4 (some .int) ({ frames := 4, cells := 0, slots := 0, locals := 90 }) D cs B V n [.ref (a), .int (u), .int (v), .int (w)] (hp_QI D cs B (fun r V' n' => r = -2)) 0 (0) := by
  refine hp_walk (R0 := RX13) (by decide) rfl ?_ (Nat.le_of_ble_eq_true rfl)
  intro p e s m below meth c ls hx hb hr hts hown hlocks hin hml hZ hl
  have hl : lv_has ls 4 [(0, .ref (a)), (1, .int (u)), (2, .int (v)), (3, .int (w))] := hl
  obtain ⟨h_a, h_classes, h_verbs, h_lines, h_className, h_verbName, h_first, h_second, h_classSize, h_verbSize, h_classOf, h_kind, h_whose, h_tense, h_person, h_firstSize, h_secondSize, h_helper, h_helperTense, h_part, h_tape, h_word, h_spare, h_did, h_before, h_form, h_helpForm, h_partForm, h_formSize, h_row, h_rowSize, h_helpSize, h_partSize, h_helpRow, h_partRow, h_helpRowSize, h_partRowSize, h_asked, h_foundVerb, h_foundTense, h_foundPerson, h_uses, ⟨g_misses, h_misses⟩, ⟨g_latest, h_latest⟩, h_changeWhat, h_changeMissed, h_changeTaken⟩ := hF
  refine lv_aload_n hx hb dX13_forms_0 rfl (lv_at hl 0 rfl) ?_
  refine lv_iload_n hx hb dX13_forms_1 rfl (lv_at hl 1 rfl) ?_
  refine lv_iload_n hx hb dX13_forms_2 rfl (lv_at hl 2 rfl) ?_
  refine lv_iload_n hx hb dX13_forms_3 rfl (lv_at hl 3 rfl) ?_
  refine hp_calli (hp_runV (As := [.int (u), .int (v), .int (w)]) (rest := []) hx hb hml hown hts (c_X13_isPlace0 l D cs B V (n) (a) q _ _ _ _ _ _ _ _ _ _ _ _ _ _ _ _ _ _ _ u v w h_a h_verbs) hZ h_a cv_X13_380 rfl rfl ⟨Nat.le_of_ble_eq_true rfl, Nat.le_of_ble_eq_true rfl⟩ rfl hl.1 rfl (Nat.le_of_ble_eq_true rfl) dX13_forms_4 ⟨(Nat.le_of_ble_eq_true rfl), (Nat.le_of_ble_eq_true rfl)⟩) hZ (fun r4 V1 n2 _ _ hw3 hZ => ?_)
  obtain ⟨rfl, rfl, rfl⟩ := hw3
  refine lv_if_ne (tgt := 13) hx hb dX13_forms_7 (by decide) (fun c5 => absurd (by decide) c5) (fun c5 => ?_)
  refine lv_bipush (v := -2) hx hb dX13_forms_10 (by decide) ?_
  exact hp_iret hx hb hr hlocks hZ rfl dX13_forms_12

set_option maxHeartbeats 4000000 in
set_option maxRecDepth 100000 in
theorem r_form (l : Launch) (D : va_G) (cs : Nat → ClassId) (B : Nat) (V : hp_V) (n : Nat) (a q : Nat) (haq : a < q) (hF : fx_M cs a q V) (u v w y z : Int32) : hp_M l yX13_form cX13_form 6 (some .int) ({ frames := 4, cells := 0, slots := 0, locals := 90 }) D cs B V n [.ref (a), .int (u), .int (v), .int (w), .int (y), .int (z)] (hp_QI D cs B (fun r V' n' => r = -1)) 0 (0) := by
  refine hp_walk (R0 := RX13) (by decide) rfl ?_ (Nat.le_of_ble_eq_true rfl)
  intro p e s m below meth c ls hx hb hr hts hown hlocks hin hml hZ hl
  have hl : lv_has ls 6 [(0, .ref (a)), (1, .int (u)), (2, .int (v)), (3, .int (w)), (4, .int (y)), (5, .int (z))] := hl
  obtain ⟨h_a, h_classes, h_verbs, h_lines, h_className, h_verbName, h_first, h_second, h_classSize, h_verbSize, h_classOf, h_kind, h_whose, h_tense, h_person, h_firstSize, h_secondSize, h_helper, h_helperTense, h_part, h_tape, h_word, h_spare, h_did, h_before, h_form, h_helpForm, h_partForm, h_formSize, h_row, h_rowSize, h_helpSize, h_partSize, h_helpRow, h_partRow, h_helpRowSize, h_partRowSize, h_asked, h_foundVerb, h_foundTense, h_foundPerson, h_uses, ⟨g_misses, h_misses⟩, ⟨g_latest, h_latest⟩, h_changeWhat, h_changeMissed, h_changeTaken⟩ := hF
  refine lv_aload_n hx hb dX13_form_0 rfl (lv_at hl 0 rfl) ?_
  refine lv_iload_n hx hb dX13_form_1 rfl (lv_at hl 1 rfl) ?_
  refine lv_iload_n hx hb dX13_form_2 rfl (lv_at hl 2 rfl) ?_
  refine lv_iload_n hx hb dX13_form_3 rfl (lv_at hl 3 rfl) ?_
  refine hp_calli (hp_runV (As := [.int (u), .int (v), .int (w)]) (rest := []) hx hb hml hown hts (c_X13_isPlace0 l D cs B V (n) (a) q _ _ _ _ _ _ _ _ _ _ _ _ _ _ _ _ _ _ _ u v w h_a h_verbs) hZ h_a cv_X13_380 rfl rfl ⟨Nat.le_of_ble_eq_true rfl, Nat.le_of_ble_eq_true rfl⟩ rfl hl.1 rfl (Nat.le_of_ble_eq_true rfl) dX13_form_4 ⟨(Nat.le_of_ble_eq_true rfl), (Nat.le_of_ble_eq_true rfl)⟩) hZ (fun r4 V1 n2 _ _ hw3 hZ => ?_)
  obtain ⟨rfl, rfl, rfl⟩ := hw3
  refine lv_if_ne (tgt := 12) hx hb dX13_form_7 (by decide) (fun c5 => absurd (by decide) c5) (fun c5 => ?_)
  refine lv_iconst (v := -1) hx hb dX13_form_10 (by decide) ?_
  exact hp_iret hx hb hr hlocks hZ rfl dX13_form_11

set_option maxHeartbeats 4000000 in
set_option maxRecDepth 100000 in
theorem r_row (l : Launch) (D : va_G) (cs : Nat → ClassId) (B : Nat) (V : hp_V) (n : Nat) (a q : Nat) (haq : a < q) (hF : fx_M cs a q V) (u v w y z : Int32) : hp_M l yX13_row cX13_row 6 (some .int) ({ frames := 4, cells := 0, slots := 0, locals := 90 }) D cs B V n [.ref (a), .int (u), .int (v), .int (w), .int (y), .int (z)] (hp_QI D cs B (fun r V' n' => r = -1)) 0 (0) := by
  refine hp_walk (R0 := RX13) (by decide) rfl ?_ (Nat.le_of_ble_eq_true rfl)
  intro p e s m below meth c ls hx hb hr hts hown hlocks hin hml hZ hl
  have hl : lv_has ls 6 [(0, .ref (a)), (1, .int (u)), (2, .int (v)), (3, .int (w)), (4, .int (y)), (5, .int (z))] := hl
  obtain ⟨h_a, h_classes, h_verbs, h_lines, h_className, h_verbName, h_first, h_second, h_classSize, h_verbSize, h_classOf, h_kind, h_whose, h_tense, h_person, h_firstSize, h_secondSize, h_helper, h_helperTense, h_part, h_tape, h_word, h_spare, h_did, h_before, h_form, h_helpForm, h_partForm, h_formSize, h_row, h_rowSize, h_helpSize, h_partSize, h_helpRow, h_partRow, h_helpRowSize, h_partRowSize, h_asked, h_foundVerb, h_foundTense, h_foundPerson, h_uses, ⟨g_misses, h_misses⟩, ⟨g_latest, h_latest⟩, h_changeWhat, h_changeMissed, h_changeTaken⟩ := hF
  refine lv_aload_n hx hb dX13_row_0 rfl (lv_at hl 0 rfl) ?_
  refine lv_iload_n hx hb dX13_row_1 rfl (lv_at hl 1 rfl) ?_
  refine lv_iload_n hx hb dX13_row_2 rfl (lv_at hl 2 rfl) ?_
  refine lv_iload_n hx hb dX13_row_3 rfl (lv_at hl 3 rfl) ?_
  refine hp_calli (hp_runV (As := [.int (u), .int (v), .int (w)]) (rest := []) hx hb hml hown hts (c_X13_isPlace0 l D cs B V (n) (a) q _ _ _ _ _ _ _ _ _ _ _ _ _ _ _ _ _ _ _ u v w h_a h_verbs) hZ h_a cv_X13_380 rfl rfl ⟨Nat.le_of_ble_eq_true rfl, Nat.le_of_ble_eq_true rfl⟩ rfl hl.1 rfl (Nat.le_of_ble_eq_true rfl) dX13_row_4 ⟨(Nat.le_of_ble_eq_true rfl), (Nat.le_of_ble_eq_true rfl)⟩) hZ (fun r4 V1 n2 _ _ hw3 hZ => ?_)
  obtain ⟨rfl, rfl, rfl⟩ := hw3
  refine lv_if_ne (tgt := 12) hx hb dX13_row_7 (by decide) (fun c5 => absurd (by decide) c5) (fun c5 => ?_)
  refine lv_iconst (v := -1) hx hb dX13_row_10 (by decide) ?_
  exact hp_iret hx hb hr hlocks hZ rfl dX13_row_11

set_option maxHeartbeats 4000000 in
set_option maxRecDepth 100000 in
theorem r_rivals (l : Launch) (D : va_G) (cs : Nat → ClassId) (B : Nat) (V : hp_V) (n : Nat) (a q : Nat) (haq : a < q) (hF : fx_M cs a q V) (u v w : Int32) : hp_M l yX13_rivals cX13_rivals 4 (some .int) ({ frames := 4, cells := 0, slots := 0, locals := 90 }) D cs B V n [.ref (a), .int (u), .int (v), .int (w)] (hp_QI D cs B (fun r V' n' => r = -2)) 0 (0) := by
  refine hp_walk (R0 := RX13) (by decide) rfl ?_ (Nat.le_of_ble_eq_true rfl)
  intro p e s m below meth c ls hx hb hr hts hown hlocks hin hml hZ hl
  have hl : lv_has ls 4 [(0, .ref (a)), (1, .int (u)), (2, .int (v)), (3, .int (w))] := hl
  obtain ⟨h_a, h_classes, h_verbs, h_lines, h_className, h_verbName, h_first, h_second, h_classSize, h_verbSize, h_classOf, h_kind, h_whose, h_tense, h_person, h_firstSize, h_secondSize, h_helper, h_helperTense, h_part, h_tape, h_word, h_spare, h_did, h_before, h_form, h_helpForm, h_partForm, h_formSize, h_row, h_rowSize, h_helpSize, h_partSize, h_helpRow, h_partRow, h_helpRowSize, h_partRowSize, h_asked, h_foundVerb, h_foundTense, h_foundPerson, h_uses, ⟨g_misses, h_misses⟩, ⟨g_latest, h_latest⟩, h_changeWhat, h_changeMissed, h_changeTaken⟩ := hF
  refine lv_aload_n hx hb dX13_rivals_0 rfl (lv_at hl 0 rfl) ?_
  refine lv_iload_n hx hb dX13_rivals_1 rfl (lv_at hl 1 rfl) ?_
  refine lv_iload_n hx hb dX13_rivals_2 rfl (lv_at hl 2 rfl) ?_
  refine lv_iload_n hx hb dX13_rivals_3 rfl (lv_at hl 3 rfl) ?_
  refine hp_calli (hp_runV (As := [.int (u), .int (v), .int (w)]) (rest := []) hx hb hml hown hts (c_X13_isPlace0 l D cs B V (n) (a) q _ _ _ _ _ _ _ _ _ _ _ _ _ _ _ _ _ _ _ u v w h_a h_verbs) hZ h_a cv_X13_380 rfl rfl ⟨Nat.le_of_ble_eq_true rfl, Nat.le_of_ble_eq_true rfl⟩ rfl hl.1 rfl (Nat.le_of_ble_eq_true rfl) dX13_rivals_4 ⟨(Nat.le_of_ble_eq_true rfl), (Nat.le_of_ble_eq_true rfl)⟩) hZ (fun r4 V1 n2 _ _ hw3 hZ => ?_)
  obtain ⟨rfl, rfl, rfl⟩ := hw3
  refine lv_if_eq (tgt := 21) hx hb dX13_rivals_7 (by decide) (fun c5 => ?_) (fun c5 => absurd (by decide) c5)
  refine lv_bipush (v := -2) hx hb dX13_rivals_21 (by decide) ?_
  exact hp_iret hx hb hr hlocks hZ rfl dX13_rivals_23

set_option maxHeartbeats 4000000 in
set_option maxRecDepth 100000 in
theorem r_read (l : Launch) (D : va_G) (cs : Nat → ClassId) (B : Nat) (V : hp_V) (n : Nat) (a q : Nat) (haq : a < q) (hF : fx_M cs a q V) : hp_M l yX13_read cX13_read 4 (some .int) ({ frames := 2, cells := 0, slots := 0, locals := 42 }) D cs B V n [.ref (a)] (hp_QI D cs B (fun r V' n' => r = 0)) 0 (0) := by
  refine hp_walk (R0 := RX13) (by decide) rfl ?_ (Nat.le_of_ble_eq_true rfl)
  intro p e s m below meth c ls hx hb hr hts hown hlocks hin hml hZ hl
  have hl : lv_has ls 4 [(0, .ref (a))] := hl
  obtain ⟨h_a, h_classes, h_verbs, h_lines, h_className, h_verbName, h_first, h_second, h_classSize, h_verbSize, h_classOf, h_kind, h_whose, h_tense, h_person, h_firstSize, h_secondSize, h_helper, h_helperTense, h_part, h_tape, h_word, h_spare, h_did, h_before, h_form, h_helpForm, h_partForm, h_formSize, h_row, h_rowSize, h_helpSize, h_partSize, h_helpRow, h_partRow, h_helpRowSize, h_partRowSize, h_asked, h_foundVerb, h_foundTense, h_foundPerson, h_uses, ⟨g_misses, h_misses⟩, ⟨g_latest, h_latest⟩, h_changeWhat, h_changeMissed, h_changeTaken⟩ := hF
  refine lv_aload_n hx hb dX13_read_0 rfl (lv_at hl 0 rfl) ?_
  refine hp_callv (hp_runV (As := []) (rest := []) hx hb hml hown hts (c_X13_ask0 l D cs B V (n) a q _ _ _ _ _ _ _ _ _ _ _ _ _ _ _ _ _ _ h_a) hZ h_a cv_X13_392 rfl rfl ⟨Nat.le_of_ble_eq_true rfl, Nat.le_of_ble_eq_true rfl⟩ rfl hl.1 rfl (Nat.le_of_ble_eq_true rfl) dX13_read_1 ⟨(Nat.le_of_ble_eq_true rfl), (Nat.le_of_ble_eq_true rfl)⟩) hZ (fun V1 n2 _ _ hw3 hZ => ?_)
  obtain ⟨hn5, fx7, fr6⟩ := hw3
  have hn5 : n = n2 := hn5.symm
  subst hn5
  refine lv_aload_n hx hb dX13_read_4 rfl (lv_at hl 0 rfl) ?_
  refine lv_iconst (v := 0) hx hb dX13_read_5 (by decide) ?_
  refine hp_put hx hb hts hown hZ fx7 fp_X13_310 rfl rfl (Nat.le_of_ble_eq_true rfl) dX13_read_6 (fun V8 _ _ e9 o10 hZ => ?_)
  have e9 : V8 (a) = some (.inr (13, mo q (0) (0) (0) (0) (0) (0) (-1) (0) (0) (0) (0) (0) (0) (0) (0) (0) (0) (0) (0))) := e9
  refine lv_iconst (v := 0) hx hb dX13_read_9 (by decide) ?_
  refine lv_istore_n (lv' := [(1, .int (0)), (0, .ref (a))]) hx hb dX13_read_10 rfl hl (by decide) rfl (fun ls hl => ?_)
  refine lv_iload_n hx hb dX13_read_11 rfl (lv_at hl 0 rfl) ?_
  refine lv_aload_n hx hb dX13_read_12 rfl (lv_at hl 1 rfl) ?_
  refine hp_get (v := .ref (q + 1)) hx hb hts hown hZ e9 fl_X13_7 rfl dX13_read_13 ?_
  refine lv_iconst (v := 0) hx hb dX13_read_16 (by decide) ?_
  have fx11 := (o10 (q + 1) (hq_lt haq 1).symm).trans ((fr6 (q + 1) (hq_lt haq 1).symm).trans (h_verbs))
  have fx11 : V8 (q + 1) = some (.inl (cs 1, 2, .inl (fun _ => 0))) := fx11
  refine hp_iald hx hb hZ fx11 (by unfold vp_in; decide) dX13_read_17 ?_
  refine W.eq (g2 := F0 m 18 ls [.int (0), .int (0)]) rfl ?_
  refine lv_icmp_ge (tgt := 61) hx hb dX13_read_18 (by decide) (fun c12 => ?_) (fun c12 => absurd (by decide) c12)
  refine lv_aload_n hx hb dX13_read_61 rfl (lv_at hl 1 rfl) ?_
  refine hp_get (v := .int (0)) hx hb hts hown hZ e9 fl_X13_310 rfl dX13_read_62 ?_
  exact hp_iret hx hb hr hlocks hZ rfl dX13_read_65

set_option maxHeartbeats 4000000 in
set_option maxRecDepth 100000 in
theorem r_place (l : Launch) (D : va_G) (cs : Nat → ClassId) (B : Nat) (V : hp_V) (n : Nat) (a q : Nat) (haq : a < q) (hF : fx_M cs a q V) (k u : Int32) : hp_M l yX13_place cX13_place 3 (some .int) ({ frames := 2, cells := 0, slots := 0, locals := 46 }) D cs B V n [.ref (a), .int (k), .int (u)] (hp_QI D cs B (fun r V' n' => r = -1)) 0 (0) := by
  refine hp_walk (R0 := RX13) (by decide) rfl ?_ (Nat.le_of_ble_eq_true rfl)
  intro p e s m below meth c ls hx hb hr hts hown hlocks hin hml hZ hl
  have hl : lv_has ls 3 [(0, .ref (a)), (1, .int (k)), (2, .int (u))] := hl
  obtain ⟨h_a, h_classes, h_verbs, h_lines, h_className, h_verbName, h_first, h_second, h_classSize, h_verbSize, h_classOf, h_kind, h_whose, h_tense, h_person, h_firstSize, h_secondSize, h_helper, h_helperTense, h_part, h_tape, h_word, h_spare, h_did, h_before, h_form, h_helpForm, h_partForm, h_formSize, h_row, h_rowSize, h_helpSize, h_partSize, h_helpRow, h_partRow, h_helpRowSize, h_partRowSize, h_asked, h_foundVerb, h_foundTense, h_foundPerson, h_uses, ⟨g_misses, h_misses⟩, ⟨g_latest, h_latest⟩, h_changeWhat, h_changeMissed, h_changeTaken⟩ := hF
  refine lv_iload_n hx hb dX13_place_0 rfl (lv_at hl 1 rfl) ?_
  refine lv_i2l (v := (k).toInt64) hx hb dX13_place_1 rfl ?_
  refine lv_lconst (v := 0) hx hb dX13_place_2 (by decide) ?_
  refine lv_aload_n hx hb dX13_place_3 rfl (lv_at hl 0 rfl) ?_
  refine hp_get (v := .int (0)) hx hb hts hown hZ h_a fl_X13_310 rfl dX13_place_4 ?_
  refine lv_bipush (v := 60) hx hb dX13_place_7 (by decide) ?_
  refine va_mmin hx hb (hml.trans hl.1.symm) hown (hts _ lk_X13_401) (hts _ ms_min) (hts _ mi_math) (hts _ mk_min) (Nat.le_of_ble_eq_true rfl) (Nat.le_of_ble_eq_true rfl) (Nat.zero_le _) (Nat.zero_le _) dX13_place_9 ?_
  refine lv_topi (fun y1 ey2 => ?_)
  obtain rfl : y1 = 0 := ey2.trans (by decide)
  refine lv_i2l (v := (0 : Int32).toInt64) hx hb dX13_place_12 rfl ?_
  refine lv_lconst (v := 1) hx hb dX13_place_13 (by decide) ?_
  refine lv_lsub hx hb dX13_place_14 ?_
  refine hp_calli (hp_runS (As := [.long ((k).toInt64), .long (0), .long (((0 : Int32).toInt64 - 1))]) (rest := []) hx hb hml hown hts (c_X13_in l D cs B V (n) (k).toInt64 0 ((0 : Int32).toInt64 - 1)) hZ cv_X13_301 rfl rfl ⟨Nat.le_of_ble_eq_true rfl, Nat.le_of_ble_eq_true rfl⟩ rfl hl.1 rfl (Nat.le_of_ble_eq_true rfl) dX13_place_15 ⟨(Nat.le_of_ble_eq_true rfl), (Nat.le_of_ble_eq_true rfl)⟩) hZ (fun r6 V3 n4 _ _ hw5 hZ => ?_)
  obtain ⟨rfl, rfl, h7⟩ := hw5
  rcases h7 with ⟨y8, y9, rfl⟩ | ⟨y10, rfl⟩
  · exact absurd (Int64.le_trans y8 y9) (by decide)
  · refine lv_if_ne (tgt := 23) hx hb dX13_place_18 (by decide) (fun c11 => absurd (by decide) c11) (fun c11 => ?_)
    refine lv_iconst (v := -1) hx hb dX13_place_21 (by decide) ?_
    exact hp_iret hx hb hr hlocks hZ rfl dX13_place_22

set_option maxHeartbeats 4000000 in
set_option maxRecDepth 100000 in
theorem r_unused (l : Launch) (D : va_G) (cs : Nat → ClassId) (B : Nat) (V : hp_V) (n : Nat) (a q : Nat) (haq : a < q) (hF : fx_M cs a q V) : hp_M l yX13_unused cX13_unused 3 (some .int) ({ frames := 2, cells := 0, slots := 0, locals := 45 }) D cs B V n [.ref (a)] (hp_QI D cs B (fun r V' n' => r = 0)) 0 (0) := by
  refine hp_walk (R0 := RX13) (by decide) rfl ?_ (Nat.le_of_ble_eq_true rfl)
  intro p e s m below meth c ls hx hb hr hts hown hlocks hin hml hZ hl
  have hl : lv_has ls 3 [(0, .ref (a))] := hl
  obtain ⟨h_a, h_classes, h_verbs, h_lines, h_className, h_verbName, h_first, h_second, h_classSize, h_verbSize, h_classOf, h_kind, h_whose, h_tense, h_person, h_firstSize, h_secondSize, h_helper, h_helperTense, h_part, h_tape, h_word, h_spare, h_did, h_before, h_form, h_helpForm, h_partForm, h_formSize, h_row, h_rowSize, h_helpSize, h_partSize, h_helpRow, h_partRow, h_helpRowSize, h_partRowSize, h_asked, h_foundVerb, h_foundTense, h_foundPerson, h_uses, ⟨g_misses, h_misses⟩, ⟨g_latest, h_latest⟩, h_changeWhat, h_changeMissed, h_changeTaken⟩ := hF
  refine lv_aload_n hx hb dX13_unused_0 rfl (lv_at hl 0 rfl) ?_
  refine hp_callv (hp_runV (As := []) (rest := []) hx hb hml hown hts (c_X13_countUses0 l D cs B V (n) a q haq _ _ _ _ _ _ _ _ _ _ _ _ _ _ _ _ _ _ _ h_a h_uses h_verbs h_lines) hZ h_a cv_X13_410 rfl rfl ⟨Nat.le_of_ble_eq_true rfl, Nat.le_of_ble_eq_true rfl⟩ rfl hl.1 rfl (Nat.le_of_ble_eq_true rfl) dX13_unused_1 ⟨(Nat.le_of_ble_eq_true rfl), (Nat.le_of_ble_eq_true rfl)⟩) hZ (fun V1 n2 _ _ hw3 hZ => ?_)
  obtain ⟨hn4, fx5, fx6⟩ := hw3
  have hn4 : n = n2 := hn4.symm
  subst hn4
  refine lv_iconst (v := 0) hx hb dX13_unused_4 (by decide) ?_
  refine lv_istore_n (lv' := [(1, .int (0)), (0, .ref (a))]) hx hb dX13_unused_5 rfl hl (by decide) rfl (fun ls hl => ?_)
  refine lv_iconst (v := 0) hx hb dX13_unused_6 (by decide) ?_
  refine lv_istore_n (lv' := [(2, .int (0)), (1, .int (0)), (0, .ref (a))]) hx hb dX13_unused_7 rfl hl (by decide) rfl (fun ls hl => ?_)
  refine lv_iload_n hx hb dX13_unused_8 rfl (lv_at hl 0 rfl) ?_
  refine lv_aload_n hx hb dX13_unused_9 rfl (lv_at hl 2 rfl) ?_
  refine hp_get (v := .ref (q + 2)) hx hb hts hown hZ fx5 fl_X13_10 rfl dX13_unused_10 ?_
  refine lv_iconst (v := 0) hx hb dX13_unused_13 (by decide) ?_
  refine hp_iald hx hb hZ fx6 (by unfold vp_in; decide) dX13_unused_14 ?_
  refine W.eq (g2 := F0 m 15 ls [.int (0), .int (0)]) rfl ?_
  refine lv_icmp_ge (tgt := 41) hx hb dX13_unused_15 (by decide) (fun c7 => ?_) (fun c7 => absurd (by decide) c7)
  refine lv_iload_n hx hb dX13_unused_41 rfl (lv_at hl 1 rfl) ?_
  exact hp_iret hx hb hr hlocks hZ rfl dX13_unused_42

set_option maxHeartbeats 4000000 in
set_option maxRecDepth 100000 in
theorem r_users (l : Launch) (D : va_G) (cs : Nat → ClassId) (B : Nat) (V : hp_V) (n : Nat) (a q : Nat) (haq : a < q) (hF : fx_M cs a q V) (k : Int32) : hp_M l yX13_users cX13_users 2 (some .int) ({ frames := 3, cells := 0, slots := 0, locals := 67 }) D cs B V n [.ref (a), .int (k)] (hp_QI D cs B (fun r V' n' => r = -2)) 0 (0) := by
  refine hp_walk (R0 := RX13) (by decide) rfl ?_ (Nat.le_of_ble_eq_true rfl)
  intro p e s m below meth c ls hx hb hr hts hown hlocks hin hml hZ hl
  have hl : lv_has ls 2 [(0, .ref (a)), (1, .int (k))] := hl
  obtain ⟨h_a, h_classes, h_verbs, h_lines, h_className, h_verbName, h_first, h_second, h_classSize, h_verbSize, h_classOf, h_kind, h_whose, h_tense, h_person, h_firstSize, h_secondSize, h_helper, h_helperTense, h_part, h_tape, h_word, h_spare, h_did, h_before, h_form, h_helpForm, h_partForm, h_formSize, h_row, h_rowSize, h_helpSize, h_partSize, h_helpRow, h_partRow, h_helpRowSize, h_partRowSize, h_asked, h_foundVerb, h_foundTense, h_foundPerson, h_uses, ⟨g_misses, h_misses⟩, ⟨g_latest, h_latest⟩, h_changeWhat, h_changeMissed, h_changeTaken⟩ := hF
  refine lv_aload_n hx hb dX13_users_0 rfl (lv_at hl 0 rfl) ?_
  refine lv_iload_n hx hb dX13_users_1 rfl (lv_at hl 1 rfl) ?_
  refine hp_calli (hp_runV (As := [.int (k)]) (rest := []) hx hb hml hown hts (c_X13_isLine0 l D cs B V (n) (a) q _ _ _ _ _ _ _ _ _ _ _ _ _ _ _ _ _ _ _ k h_a h_lines) hZ h_a cv_X13_324 rfl rfl ⟨Nat.le_of_ble_eq_true rfl, Nat.le_of_ble_eq_true rfl⟩ rfl hl.1 rfl (Nat.le_of_ble_eq_true rfl) dX13_users_2 ⟨(Nat.le_of_ble_eq_true rfl), (Nat.le_of_ble_eq_true rfl)⟩) hZ (fun r4 V1 n2 _ _ hw3 hZ => ?_)
  obtain ⟨rfl, rfl, rfl⟩ := hw3
  refine lv_if_ne (tgt := 11) hx hb dX13_users_5 (by decide) (fun c5 => absurd (by decide) c5) (fun c5 => ?_)
  refine lv_bipush (v := -2) hx hb dX13_users_8 (by decide) ?_
  exact hp_iret hx hb hr hlocks hZ rfl dX13_users_10

set_option maxHeartbeats 4000000 in
set_option maxRecDepth 100000 in
theorem r_answer (l : Launch) (D : va_G) (cs : Nat → ClassId) (B : Nat) (V : hp_V) (n : Nat) (a q : Nat) (haq : a < q) (hF : fx_M cs a q V) (k u v w : Int32) : hp_M l yX13_answer cX13_answer 6 (some .int) ({ frames := 4, cells := 0, slots := 0, locals := 90 }) D cs B V n [.ref (a), .int (k), .int (u), .int (v), .int (w)] (hp_QI D cs B (fun r V' n' => r = -2)) 0 (0) := by
  refine hp_walk (R0 := RX13) (by decide) rfl ?_ (Nat.le_of_ble_eq_true rfl)
  intro p e s m below meth c ls hx hb hr hts hown hlocks hin hml hZ hl
  have hl : lv_has ls 6 [(0, .ref (a)), (1, .int (k)), (2, .int (u)), (3, .int (v)), (4, .int (w))] := hl
  obtain ⟨h_a, h_classes, h_verbs, h_lines, h_className, h_verbName, h_first, h_second, h_classSize, h_verbSize, h_classOf, h_kind, h_whose, h_tense, h_person, h_firstSize, h_secondSize, h_helper, h_helperTense, h_part, h_tape, h_word, h_spare, h_did, h_before, h_form, h_helpForm, h_partForm, h_formSize, h_row, h_rowSize, h_helpSize, h_partSize, h_helpRow, h_partRow, h_helpRowSize, h_partRowSize, h_asked, h_foundVerb, h_foundTense, h_foundPerson, h_uses, ⟨g_misses, h_misses⟩, ⟨g_latest, h_latest⟩, h_changeWhat, h_changeMissed, h_changeTaken⟩ := hF
  refine lv_aload_n hx hb dX13_answer_0 rfl (lv_at hl 0 rfl) ?_
  refine hp_callv (hp_runV (As := []) (rest := []) hx hb hml hown hts (c_X13_ask0 l D cs B V (n) a q _ _ _ _ _ _ _ _ _ _ _ _ _ _ _ _ _ _ h_a) hZ h_a cv_X13_392 rfl rfl ⟨Nat.le_of_ble_eq_true rfl, Nat.le_of_ble_eq_true rfl⟩ rfl hl.1 rfl (Nat.le_of_ble_eq_true rfl) dX13_answer_1 ⟨(Nat.le_of_ble_eq_true rfl), (Nat.le_of_ble_eq_true rfl)⟩) hZ (fun V1 n2 _ _ hw3 hZ => ?_)
  obtain ⟨hn5, fx7, fr6⟩ := hw3
  have hn5 : n = n2 := hn5.symm
  subst hn5
  refine lv_iload_n hx hb dX13_answer_4 rfl (lv_at hl 1 rfl) ?_
  refine hp_calli (hp_runS (As := [.int (k)]) (rest := []) hx hb hml hown hts (c_X13_isLearner l D cs B V1 (n) k) hZ cv_X13_456 rfl rfl ⟨Nat.le_of_ble_eq_true rfl, Nat.le_of_ble_eq_true rfl⟩ rfl hl.1 rfl (Nat.le_of_ble_eq_true rfl) dX13_answer_5 ⟨(Nat.le_of_ble_eq_true rfl), (Nat.le_of_ble_eq_true rfl)⟩) hZ (fun r11 V8 n9 _ _ hw10 hZ => ?_)
  obtain ⟨rfl, rfl, h12⟩ := hw10
  rcases h12 with ⟨hk0, hk8, rfl⟩ | ⟨hkn, rfl⟩
  · refine lv_if_eq (tgt := 22) hx hb dX13_answer_8 (by decide) (fun c13 => absurd c13 (by decide)) (fun c13 => ?_)
    refine lv_aload_n hx hb dX13_answer_11 rfl (lv_at hl 0 rfl) ?_
    refine lv_iload_n hx hb dX13_answer_12 rfl (lv_at hl 2 rfl) ?_
    refine lv_iload_n hx hb dX13_answer_13 rfl (lv_at hl 3 rfl) ?_
    refine lv_iload hx hb dX13_answer_14 (lv_at hl 4 rfl) ?_
    have fx18 := (fr6 (q + 1) (hq_lt haq 1).symm).trans (h_verbs)
    have fx18 : V1 (q + 1) = some (.inl (cs 1, 2, .inl (fun _ => 0))) := fx18
    refine hp_calli (hp_runV (As := [.int (u), .int (v), .int (w)]) (rest := []) hx hb hml hown hts (c_X13_isPlace0 l D cs B V1 (n) (a) q _ _ _ _ _ _ _ _ _ _ _ _ _ _ _ _ _ _ _ u v w fx7 fx18) hZ fx7 cv_X13_380 rfl rfl ⟨Nat.le_of_ble_eq_true rfl, Nat.le_of_ble_eq_true rfl⟩ rfl hl.1 rfl (Nat.le_of_ble_eq_true rfl) dX13_answer_16 ⟨(Nat.le_of_ble_eq_true rfl), (Nat.le_of_ble_eq_true rfl)⟩) hZ (fun r17 V14 n15 _ _ hw16 hZ => ?_)
    obtain ⟨rfl, rfl, rfl⟩ := hw16
    refine lv_if_ne (tgt := 25) hx hb dX13_answer_19 (by decide) (fun c19 => absurd (by decide) c19) (fun c19 => ?_)
    refine lv_bipush (v := -2) hx hb dX13_answer_22 (by decide) ?_
    exact hp_iret hx hb hr hlocks hZ rfl dX13_answer_24
  · refine lv_if_eq (tgt := 22) hx hb dX13_answer_8 (by decide) (fun c20 => ?_) (fun c20 => absurd (by decide) c20)
    refine lv_bipush (v := -2) hx hb dX13_answer_22 (by decide) ?_
    exact hp_iret hx hb hr hlocks hZ rfl dX13_answer_24

set_option maxHeartbeats 4000000 in
set_option maxRecDepth 100000 in
theorem r_change (l : Launch) (D : va_G) (cs : Nat → ClassId) (B : Nat) (V : hp_V) (n : Nat) (a q : Nat) (haq : a < q) (hF : fx_M cs a q V) (k : Int32) : hp_M l yX13_change cX13_change 2 (some .int) ({ frames := 1, cells := 0, slots := 0, locals := 21 }) D cs B V n [.ref (a), .int (k)] (hp_QI D cs B (fun r V' n' => r = -9)) 0 (0) := by
  refine hp_walk (R0 := RX13) (by decide) rfl ?_ (Nat.le_of_ble_eq_true rfl)
  intro p e s m below meth c ls hx hb hr hts hown hlocks hin hml hZ hl
  have hl : lv_has ls 2 [(0, .ref (a)), (1, .int (k))] := hl
  obtain ⟨h_a, h_classes, h_verbs, h_lines, h_className, h_verbName, h_first, h_second, h_classSize, h_verbSize, h_classOf, h_kind, h_whose, h_tense, h_person, h_firstSize, h_secondSize, h_helper, h_helperTense, h_part, h_tape, h_word, h_spare, h_did, h_before, h_form, h_helpForm, h_partForm, h_formSize, h_row, h_rowSize, h_helpSize, h_partSize, h_helpRow, h_partRow, h_helpRowSize, h_partRowSize, h_asked, h_foundVerb, h_foundTense, h_foundPerson, h_uses, ⟨g_misses, h_misses⟩, ⟨g_latest, h_latest⟩, h_changeWhat, h_changeMissed, h_changeTaken⟩ := hF
  refine lv_aload_n hx hb dX13_change_0 rfl (lv_at hl 0 rfl) ?_
  refine hp_get (v := .int (0)) hx hb hts hown hZ h_a fl_X13_313 rfl dX13_change_1 ?_
  refine lv_if_ne (tgt := 10) hx hb dX13_change_4 (by decide) (fun c1 => absurd (by decide) c1) (fun c1 => ?_)
  refine lv_bipush (v := -9) hx hb dX13_change_7 (by decide) ?_
  exact hp_iret hx hb hr hlocks hZ rfl dX13_change_9

set_option maxHeartbeats 4000000 in
set_option maxRecDepth 100000 in
theorem r_misses (l : Launch) (D : va_G) (cs : Nat → ClassId) (B : Nat) (V : hp_V) (n : Nat) (a q : Nat) (haq : a < q) (hF : fx_M cs a q V) (k u : Int32) : hp_M l yX13_misses cX13_misses 3 (some .int) ({ frames := 3, cells := 0, slots := 0, locals := 67 }) D cs B V n [.ref (a), .int (k), .int (u)] (hp_QI D cs B (fun r V' n' => r = -2)) 0 (0) := by
  refine hp_walk (R0 := RX13) (by decide) rfl ?_ (Nat.le_of_ble_eq_true rfl)
  intro p e s m below meth c ls hx hb hr hts hown hlocks hin hml hZ hl
  have hl : lv_has ls 3 [(0, .ref (a)), (1, .int (k)), (2, .int (u))] := hl
  obtain ⟨h_a, h_classes, h_verbs, h_lines, h_className, h_verbName, h_first, h_second, h_classSize, h_verbSize, h_classOf, h_kind, h_whose, h_tense, h_person, h_firstSize, h_secondSize, h_helper, h_helperTense, h_part, h_tape, h_word, h_spare, h_did, h_before, h_form, h_helpForm, h_partForm, h_formSize, h_row, h_rowSize, h_helpSize, h_partSize, h_helpRow, h_partRow, h_helpRowSize, h_partRowSize, h_asked, h_foundVerb, h_foundTense, h_foundPerson, h_uses, ⟨g_misses, h_misses⟩, ⟨g_latest, h_latest⟩, h_changeWhat, h_changeMissed, h_changeTaken⟩ := hF
  refine lv_iload_n hx hb dX13_misses_0 rfl (lv_at hl 1 rfl) ?_
  refine hp_calli (hp_runS (As := [.int (k)]) (rest := []) hx hb hml hown hts (c_X13_isLearner l D cs B V (n) k) hZ cv_X13_456 rfl rfl ⟨Nat.le_of_ble_eq_true rfl, Nat.le_of_ble_eq_true rfl⟩ rfl hl.1 rfl (Nat.le_of_ble_eq_true rfl) dX13_misses_1 ⟨(Nat.le_of_ble_eq_true rfl), (Nat.le_of_ble_eq_true rfl)⟩) hZ (fun r4 V1 n2 _ _ hw3 hZ => ?_)
  obtain ⟨rfl, rfl, h5⟩ := hw3
  rcases h5 with ⟨hk0, hk8, rfl⟩ | ⟨hkn, rfl⟩
  · refine lv_if_eq (tgt := 29) hx hb dX13_misses_4 (by decide) (fun c6 => absurd c6 (by decide)) (fun c6 => ?_)
    refine lv_aload_n hx hb dX13_misses_7 rfl (lv_at hl 0 rfl) ?_
    refine lv_iload_n hx hb dX13_misses_8 rfl (lv_at hl 2 rfl) ?_
    refine hp_calli (hp_runV (As := [.int (u)]) (rest := []) hx hb hml hown hts (c_X13_isLine0 l D cs B V (n) (a) q _ _ _ _ _ _ _ _ _ _ _ _ _ _ _ _ _ _ _ u h_a h_lines) hZ h_a cv_X13_324 rfl rfl ⟨Nat.le_of_ble_eq_true rfl, Nat.le_of_ble_eq_true rfl⟩ rfl hl.1 rfl (Nat.le_of_ble_eq_true rfl) dX13_misses_9 ⟨(Nat.le_of_ble_eq_true rfl), (Nat.le_of_ble_eq_true rfl)⟩) hZ (fun r10 V7 n8 _ _ hw9 hZ => ?_)
    obtain ⟨rfl, rfl, rfl⟩ := hw9
    refine lv_if_eq (tgt := 29) hx hb dX13_misses_12 (by decide) (fun c11 => ?_) (fun c11 => absurd (by decide) c11)
    refine lv_bipush (v := -2) hx hb dX13_misses_29 (by decide) ?_
    exact hp_iret hx hb hr hlocks hZ rfl dX13_misses_31
  · refine lv_if_eq (tgt := 29) hx hb dX13_misses_4 (by decide) (fun c12 => ?_) (fun c12 => absurd (by decide) c12)
    refine lv_bipush (v := -2) hx hb dX13_misses_29 (by decide) ?_
    exact hp_iret hx hb hr hlocks hZ rfl dX13_misses_31

set_option maxHeartbeats 4000000 in
set_option maxRecDepth 100000 in
theorem r_drill (l : Launch) (D : va_G) (cs : Nat → ClassId) (B : Nat) (V : hp_V) (n : Nat) (a q : Nat) (haq : a < q) (hF : fx_M cs a q V) (k : Int32) : hp_M l yX13_drill cX13_drill 9 (some .int) ({ frames := 3, cells := 0, slots := 0, locals := 66 }) D cs B V n [.ref (a), .int (k)] (hp_QI D cs B (fun r V' n' => ((0 ≤ k ∧ k < 8) → r = -1) ∧ (¬ (0 ≤ k ∧ k < 8) → r = -2))) 0 (0) := by
  refine hp_walk (R0 := RX13) (by decide) rfl ?_ (Nat.le_of_ble_eq_true rfl)
  intro p e s m below meth c ls hx hb hr hts hown hlocks hin hml hZ hl
  have hl : lv_has ls 9 [(0, .ref (a)), (1, .int (k))] := hl
  obtain ⟨h_a, h_classes, h_verbs, h_lines, h_className, h_verbName, h_first, h_second, h_classSize, h_verbSize, h_classOf, h_kind, h_whose, h_tense, h_person, h_firstSize, h_secondSize, h_helper, h_helperTense, h_part, h_tape, h_word, h_spare, h_did, h_before, h_form, h_helpForm, h_partForm, h_formSize, h_row, h_rowSize, h_helpSize, h_partSize, h_helpRow, h_partRow, h_helpRowSize, h_partRowSize, h_asked, h_foundVerb, h_foundTense, h_foundPerson, h_uses, ⟨g_misses, h_misses⟩, ⟨g_latest, h_latest⟩, h_changeWhat, h_changeMissed, h_changeTaken⟩ := hF
  refine lv_iload_n hx hb dX13_drill_0 rfl (lv_at hl 1 rfl) ?_
  refine hp_calli (hp_runS (As := [.int (k)]) (rest := []) hx hb hml hown hts (c_X13_isLearner l D cs B V (n) k) hZ cv_X13_456 rfl rfl ⟨Nat.le_of_ble_eq_true rfl, Nat.le_of_ble_eq_true rfl⟩ rfl hl.1 rfl (Nat.le_of_ble_eq_true rfl) dX13_drill_1 ⟨(Nat.le_of_ble_eq_true rfl), (Nat.le_of_ble_eq_true rfl)⟩) hZ (fun r4 V1 n2 _ _ hw3 hZ => ?_)
  obtain ⟨rfl, rfl, h5⟩ := hw3
  rcases h5 with ⟨hk0, hk8, rfl⟩ | ⟨hkn, rfl⟩
  · refine lv_if_ne (tgt := 10) hx hb dX13_drill_4 (by decide) (fun c6 => ?_) (fun c6 => absurd c6 (by decide))
    refine lv_iconst (v := -1) hx hb dX13_drill_10 (by decide) ?_
    refine lv_istore_n (lv' := [(2, .int (-1)), (0, .ref (a)), (1, .int (k))]) hx hb dX13_drill_11 rfl hl (by decide) rfl (fun ls hl => ?_)
    refine lv_iconst (v := -1) hx hb dX13_drill_12 (by decide) ?_
    refine lv_istore_n (lv' := [(3, .int (-1)), (2, .int (-1)), (0, .ref (a)), (1, .int (k))]) hx hb dX13_drill_13 rfl hl (by decide) rfl (fun ls hl => ?_)
    refine lv_iconst (v := 0) hx hb dX13_drill_14 (by decide) ?_
    refine lv_istore (lv' := [(4, .int (0)), (3, .int (-1)), (2, .int (-1)), (0, .ref (a)), (1, .int (k))]) hx hb dX13_drill_15 hl (by decide) rfl (fun ls hl => ?_)
    refine lv_iload hx hb dX13_drill_17 (lv_at hl 0 rfl) ?_
    refine lv_aload_n hx hb dX13_drill_19 rfl (lv_at hl 3 rfl) ?_
    refine hp_get (v := .ref (q + 1)) hx hb hts hown hZ h_a fl_X13_7 rfl dX13_drill_20 ?_
    refine lv_iconst (v := 0) hx hb dX13_drill_23 (by decide) ?_
    refine hp_iald hx hb hZ h_verbs (by unfold vp_in; decide) dX13_drill_24 ?_
    refine W.eq (g2 := F0 m 25 ls [.int (0), .int (0)]) rfl ?_
    refine lv_icmp_ge (tgt := 150) hx hb dX13_drill_25 (by decide) (fun c7 => ?_) (fun c7 => absurd (by decide) c7)
    refine lv_iload_n hx hb dX13_drill_150 rfl (lv_at hl 2 rfl) ?_
    exact hp_iret hx hb hr hlocks hZ ⟨fun _ => rfl, fun h9 => absurd ⟨hk0, hk8⟩ h9⟩ dX13_drill_151
  · refine lv_if_ne (tgt := 10) hx hb dX13_drill_4 (by decide) (fun c8 => absurd (by decide) c8) (fun c8 => ?_)
    refine lv_bipush (v := -2) hx hb dX13_drill_7 (by decide) ?_
    exact hp_iret hx hb hr hlocks hZ ⟨fun h9 => absurd h9 hkn, fun _ => rfl⟩ dX13_drill_9

set_option maxHeartbeats 4000000 in
set_option maxRecDepth 100000 in
theorem r_count (l : Launch) (D : va_G) (cs : Nat → ClassId) (B : Nat) (V : hp_V) (n : Nat) (a q : Nat) (haq : a < q) (hF : fx_M cs a q V) (k : Int32) : hp_M l yX13_count cX13_count 2 (some .int) ({ frames := 1, cells := 0, slots := 0, locals := 21 }) D cs B V n [.ref (a), .int (k)] (hp_QI D cs B (fun r V' n' => ((k = 0 ∨ k = 1 ∨ k = 2 ∨ k = 3) → r = 0) ∧ (¬ (k = 0 ∨ k = 1 ∨ k = 2 ∨ k = 3) → r = -1))) 0 (0) := by
  refine hp_walk (R0 := RX13) (by decide) rfl ?_ (Nat.le_of_ble_eq_true rfl)
  intro p e s m below meth c ls hx hb hr hts hown hlocks hin hml hZ hl
  have hl : lv_has ls 2 [(0, .ref (a)), (1, .int (k))] := hl
  obtain ⟨h_a, h_classes, h_verbs, h_lines, h_className, h_verbName, h_first, h_second, h_classSize, h_verbSize, h_classOf, h_kind, h_whose, h_tense, h_person, h_firstSize, h_secondSize, h_helper, h_helperTense, h_part, h_tape, h_word, h_spare, h_did, h_before, h_form, h_helpForm, h_partForm, h_formSize, h_row, h_rowSize, h_helpSize, h_partSize, h_helpRow, h_partRow, h_helpRowSize, h_partRowSize, h_asked, h_foundVerb, h_foundTense, h_foundPerson, h_uses, ⟨g_misses, h_misses⟩, ⟨g_latest, h_latest⟩, h_changeWhat, h_changeMissed, h_changeTaken⟩ := hF
  refine lv_iload_n hx hb dX13_count_0 rfl (lv_at hl 1 rfl) ?_
  refine lv_if_ne (tgt := 13) hx hb dX13_count_1 (by decide) (fun c1 => ?_) (fun c1 => ?_)
  · refine lv_iload_n hx hb dX13_count_13 rfl (lv_at hl 1 rfl) ?_
    refine lv_iconst (v := 1) hx hb dX13_count_14 (by decide) ?_
    refine lv_icmp_ne (tgt := 27) hx hb dX13_count_15 (by decide) (fun c2 => ?_) (fun c2 => ?_)
    · refine lv_iload_n hx hb dX13_count_27 rfl (lv_at hl 1 rfl) ?_
      refine lv_iconst (v := 2) hx hb dX13_count_28 (by decide) ?_
      refine lv_icmp_ne (tgt := 41) hx hb dX13_count_29 (by decide) (fun c3 => ?_) (fun c3 => ?_)
      · refine lv_iload_n hx hb dX13_count_41 rfl (lv_at hl 1 rfl) ?_
        refine lv_iconst (v := 3) hx hb dX13_count_42 (by decide) ?_
        refine lv_icmp_ne (tgt := 53) hx hb dX13_count_43 (by decide) (fun c4 => ?_) (fun c4 => ?_)
        · refine lv_iconst (v := -1) hx hb dX13_count_53 (by decide) ?_
          exact hp_iret hx hb hr hlocks hZ ⟨fun h9 => h9.elim (fun e => absurd e c1) (fun e => e.elim (fun e => absurd e c2) (fun e => e.elim (fun e => absurd e c3) (fun e => absurd e c4))), fun _ => rfl⟩ dX13_count_54
        · refine lv_aload_n hx hb dX13_count_46 rfl (lv_at hl 0 rfl) ?_
          refine hp_get (v := .int (0)) hx hb hts hown hZ h_a fl_X13_295 rfl dX13_count_47 ?_
          refine lv_goto (tgt := 54) hx hb dX13_count_50 (by decide) ?_
          exact hp_iret hx hb hr hlocks hZ ⟨fun _ => rfl, fun h9 => absurd (Or.inr (Or.inr (Or.inr c4))) h9⟩ dX13_count_54
      · refine lv_aload_n hx hb dX13_count_32 rfl (lv_at hl 0 rfl) ?_
        refine hp_get (v := .ref (q + 2)) hx hb hts hown hZ h_a fl_X13_10 rfl dX13_count_33 ?_
        refine lv_iconst (v := 0) hx hb dX13_count_36 (by decide) ?_
        refine hp_iald hx hb hZ h_lines (by unfold vp_in; decide) dX13_count_37 ?_
        refine W.eq (g2 := F0 m 38 ls [.int (0)]) rfl ?_
        refine lv_goto (tgt := 54) hx hb dX13_count_38 (by decide) ?_
        exact hp_iret hx hb hr hlocks hZ ⟨fun _ => rfl, fun h9 => absurd (Or.inr (Or.inr (Or.inl c3))) h9⟩ dX13_count_54
    · refine lv_aload_n hx hb dX13_count_18 rfl (lv_at hl 0 rfl) ?_
      refine hp_get (v := .ref (q + 1)) hx hb hts hown hZ h_a fl_X13_7 rfl dX13_count_19 ?_
      refine lv_iconst (v := 0) hx hb dX13_count_22 (by decide) ?_
      refine hp_iald hx hb hZ h_verbs (by unfold vp_in; decide) dX13_count_23 ?_
      refine W.eq (g2 := F0 m 24 ls [.int (0)]) rfl ?_
      refine lv_goto (tgt := 54) hx hb dX13_count_24 (by decide) ?_
      exact hp_iret hx hb hr hlocks hZ ⟨fun _ => rfl, fun h9 => absurd (Or.inr (Or.inl c2)) h9⟩ dX13_count_54
  · refine lv_aload_n hx hb dX13_count_4 rfl (lv_at hl 0 rfl) ?_
    refine hp_get (v := .ref (q)) hx hb hts hown hZ h_a fl_X13_1 rfl dX13_count_5 ?_
    refine lv_iconst (v := 0) hx hb dX13_count_8 (by decide) ?_
    refine hp_iald hx hb hZ h_classes (by unfold vp_in; decide) dX13_count_9 ?_
    refine W.eq (g2 := F0 m 10 ls [.int (0)]) rfl ?_
    refine lv_goto (tgt := 54) hx hb dX13_count_10 (by decide) ?_
    exact hp_iret hx hb hr hlocks hZ ⟨fun _ => rfl, fun h9 => absurd (Or.inl c1) h9⟩ dX13_count_54

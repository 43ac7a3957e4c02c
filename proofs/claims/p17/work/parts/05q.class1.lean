set_option maxHeartbeats 4000000 in
set_option maxRecDepth 100000 in
theorem t_X11_isPlace_1 (l : Launch) (D : va_G) (cs : Nat → ClassId) (B : Nat) (G : hq_G) (V : hp_V) (n : Nat) (hI : hq_I cs G V) (x : Nat) (h_x : G x = some (15, 0, 0, 0)) (v : Int32) (te : Int32) (pe : Int32) {c_tp c_pa c_mk c_sv c_ex c_lr c_fo c_to c_sp : Nat} {c_fs : Int32} (ho_x : V x = some (.inr (11, [.ref (c_tp), .ref (c_pa), .ref (c_mk), .ref (c_sv), .ref (c_ex), .ref (c_lr), .ref (c_fo), .int (c_fs), .ref (c_to), .ref (c_sp)]))) (h_c_tp : G c_tp = some (0, 4000, 0, 0)) (h_c_pa : G c_pa = some (10, 0, 0, 0)) (h_c_mk : G c_mk = some (11, 0, 0, 0)) (h_c_sv : G c_sv = some (12, 0, 0, 0)) (h_c_ex : G c_ex = some (14, 0, 0, 0)) (h_c_lr : G c_lr = some (4, 5, 8, 0)) (h_c_fo : G c_fo = some (2, 0, 60, 0)) (h_c_to : G c_to = some (6, 1, 0, 0)) (h_c_sp : G c_sp = some (6, 0, 0, 0)) (hi_x0 : 0 ≤ c_fs.toInt ∧ c_fs.toInt ≤ 60) : hp_M l yX11_isPlace cX11_isPlace 4 (some .boolean) ({ frames := 1, cells := 0, slots := 0, locals := 21 }) D cs B V n [.ref (x), .int (v), .int (te), .int (pe)] (hp_QI D cs B (fun r V' n' => n = n' ∧ hq_P cs G (fun _ => false) V V' ∧ (V' x = some (.inr (11, [.ref (c_tp), .ref (c_pa), .ref (c_mk), .ref (c_sv), .ref (c_ex), .ref (c_lr), .ref (c_fo), .int (c_fs), .ref (c_to), .ref (c_sp)]))) ∧ (r.toInt = 0 ∨ (r.toInt = 1 ∧ 0 ≤ v.toInt ∧ v.toInt < 30 ∧ 0 ≤ te.toInt ∧ te.toInt < 5 ∧ 0 ≤ pe.toInt ∧ pe.toInt < 6)))) 0 0 := by
  refine hp_walk (R0 := RX11) (by decide) rfl ?_ (Nat.le_of_ble_eq_true rfl)
  intro p e s m below meth c ls hx hb hr hts hown hlocks hin hml hZ hl
  have hP : hq_P cs G (fun _ => false) V V := hq_P.rf hI
  have hl : lv_has ls 4 [(0, .ref (x)), (1, .int (v)), (2, .int (te)), (3, .int (pe))] := hl
  have hb_v := hq_rng v
  have hb_te := hq_rng te
  have hb_pe := hq_rng pe
  have hb_c_fs := hq_rng c_fs
  refine lv_iload_n hx hb dX11_isPlace_0 rfl (lv_at hl 1 rfl) ?_
  refine lv_if_lt (tgt := 38) hx hb dX11_isPlace_1 (by decide) (fun c1 => ?_) (fun c1 => ?_)
  · have c1 : (v).toInt < (0 : Int) := hq_lti.mp c1
    refine lv_iconst (v := 0) hx hb dX11_isPlace_38 (by decide) ?_
    exact hp_zret hx hb hr rfl hlocks hZ ⟨rfl, hP, ho_x, (Or.inl (by decide))⟩ dX11_isPlace_39
  · have c1 : ¬ (v).toInt < (0 : Int) := fun h9 => c1 (hq_lti.mpr h9)
    refine lv_iload_n hx hb dX11_isPlace_4 rfl (lv_at hl 1 rfl) ?_
    refine lv_aload_n hx hb dX11_isPlace_5 rfl (lv_at hl 0 rfl) ?_
    refine hp_get (v := .ref (c_to)) hx hb hts hown hZ ho_x fl_X11_64 rfl dX11_isPlace_6 ?_
    obtain ⟨u3, u4, u5, u6, z7, z8, z9, eV2, hu10, hu11, hu12, hu13, ⟨h14, h15⟩, ⟨h16, h17⟩, h18, h19⟩ := hq_o6 hP.1 h_c_to
    refine hp_get (v := .int (z8)) hx hb hts hown hZ eV2 fl_X11_96 rfl dX11_isPlace_9 ?_
    refine lv_icmp_ge (tgt := 38) hx hb dX11_isPlace_12 (by decide) (fun c20 => ?_) (fun c20 => ?_)
    · have c20 : (z8).toInt ≤ (v).toInt := hq_lei.mp c20
      refine lv_iconst (v := 0) hx hb dX11_isPlace_38 (by decide) ?_
      exact hp_zret hx hb hr rfl hlocks hZ ⟨rfl, hP, ho_x, (Or.inl (by decide))⟩ dX11_isPlace_39
    · have c20 : ¬ (z8).toInt ≤ (v).toInt := fun h9 => c20 (hq_lei.mpr h9)
      refine lv_iload_n hx hb dX11_isPlace_15 rfl (lv_at hl 2 rfl) ?_
      refine lv_if_lt (tgt := 38) hx hb dX11_isPlace_16 (by decide) (fun c21 => ?_) (fun c21 => ?_)
      · have c21 : (te).toInt < (0 : Int) := hq_lti.mp c21
        refine lv_iconst (v := 0) hx hb dX11_isPlace_38 (by decide) ?_
        exact hp_zret hx hb hr rfl hlocks hZ ⟨rfl, hP, ho_x, (Or.inl (by decide))⟩ dX11_isPlace_39
      · have c21 : ¬ (te).toInt < (0 : Int) := fun h9 => c21 (hq_lti.mpr h9)
        refine lv_iload_n hx hb dX11_isPlace_19 rfl (lv_at hl 2 rfl) ?_
        refine lv_iconst (v := 5) hx hb dX11_isPlace_20 (by decide) ?_
        refine lv_icmp_ge (tgt := 38) hx hb dX11_isPlace_21 (by decide) (fun c22 => ?_) (fun c22 => ?_)
        · have c22 : (5 : Int) ≤ (te).toInt := hq_lei.mp c22
          refine lv_iconst (v := 0) hx hb dX11_isPlace_38 (by decide) ?_
          exact hp_zret hx hb hr rfl hlocks hZ ⟨rfl, hP, ho_x, (Or.inl (by decide))⟩ dX11_isPlace_39
        · have c22 : ¬ (5 : Int) ≤ (te).toInt := fun h9 => c22 (hq_lei.mpr h9)
          refine lv_iload_n hx hb dX11_isPlace_24 rfl (lv_at hl 3 rfl) ?_
          refine lv_if_lt (tgt := 38) hx hb dX11_isPlace_25 (by decide) (fun c23 => ?_) (fun c23 => ?_)
          · have c23 : (pe).toInt < (0 : Int) := hq_lti.mp c23
            refine lv_iconst (v := 0) hx hb dX11_isPlace_38 (by decide) ?_
            exact hp_zret hx hb hr rfl hlocks hZ ⟨rfl, hP, ho_x, (Or.inl (by decide))⟩ dX11_isPlace_39
          · have c23 : ¬ (pe).toInt < (0 : Int) := fun h9 => c23 (hq_lti.mpr h9)
            refine lv_iload_n hx hb dX11_isPlace_28 rfl (lv_at hl 3 rfl) ?_
            refine lv_bipush (v := 6) hx hb dX11_isPlace_29 (by decide) ?_
            refine lv_icmp_ge (tgt := 38) hx hb dX11_isPlace_31 (by decide) (fun c24 => ?_) (fun c24 => ?_)
            · have c24 : (6 : Int) ≤ (pe).toInt := hq_lei.mp c24
              refine lv_iconst (v := 0) hx hb dX11_isPlace_38 (by decide) ?_
              exact hp_zret hx hb hr rfl hlocks hZ ⟨rfl, hP, ho_x, (Or.inl (by decide))⟩ dX11_isPlace_39
            · have c24 : ¬ (6 : Int) ≤ (pe).toInt := fun h9 => c24 (hq_lei.mpr h9)
              refine lv_iconst (v := 1) hx hb dX11_isPlace_34 (by decide) ?_
              refine lv_goto (tgt := 39) hx hb dX11_isPlace_35 (by decide) ?_
              exact hp_zret hx hb hr rfl hlocks hZ ⟨rfl, hP, ho_x, (Or.inr ⟨by decide, by omega, by omega, by omega, by omega, by omega, by omega⟩)⟩ dX11_isPlace_39

set_option maxHeartbeats 4000000 in
set_option maxRecDepth 100000 in
theorem t_X11_fault_1 (l : Launch) (D : va_G) (cs : Nat → ClassId) (B : Nat) (G : hq_G) (V : hp_V) (n : Nat) (hI : hq_I cs G V) (x : Nat) (h_x : G x = some (15, 0, 0, 0)) (k : Int32) {c_tp c_pa c_mk c_sv c_ex c_lr c_fo c_to c_sp : Nat} {c_fs : Int32} (ho_x : V x = some (.inr (11, [.ref (c_tp), .ref (c_pa), .ref (c_mk), .ref (c_sv), .ref (c_ex), .ref (c_lr), .ref (c_fo), .int (c_fs), .ref (c_to), .ref (c_sp)]))) (h_c_tp : G c_tp = some (0, 4000, 0, 0)) (h_c_pa : G c_pa = some (10, 0, 0, 0)) (h_c_mk : G c_mk = some (11, 0, 0, 0)) (h_c_sv : G c_sv = some (12, 0, 0, 0)) (h_c_ex : G c_ex = some (14, 0, 0, 0)) (h_c_lr : G c_lr = some (4, 5, 8, 0)) (h_c_fo : G c_fo = some (2, 0, 60, 0)) (h_c_to : G c_to = some (6, 1, 0, 0)) (h_c_sp : G c_sp = some (6, 0, 0, 0)) (hi_x0 : 0 ≤ c_fs.toInt ∧ c_fs.toInt ≤ 60) {q_nm : Nat} {q_fk q_fp q_nx q_tk q_st : Int32} {q_tx q_ou : Value} (ho_c_pa : V c_pa = some (.inr (7, [.int (q_fk), .int (q_fp), q_tx, q_ou, .int (q_nx), .int (q_tk), .int (q_st), .ref (q_nm)]))) (h_q_nm : G q_nm = some (0, 12, 0, 0)) : hp_M l yX11_fault cX11_fault 2 (some .int) ({ frames := 1, cells := 0, slots := 0, locals := 21 }) D cs B V n [.ref (x), .int (k)] (hp_QI D cs B (fun r V' n' => n = n' ∧ hq_P cs G (fun _ => false) V V' ∧ (V' x = some (.inr (11, [.ref (c_tp), .ref (c_pa), .ref (c_mk), .ref (c_sv), .ref (c_ex), .ref (c_lr), .ref (c_fo), .int (c_fs), .ref (c_to), .ref (c_sp)]))) ∧ (V' c_pa = some (.inr (7, [.int (q_fk), .int (q_fp), q_tx, q_ou, .int (q_nx), .int (q_tk), .int (q_st), .ref (q_nm)]))) ∧ True)) 0 0 := by
  refine hp_walk (R0 := RX11) (by decide) rfl ?_ (Nat.le_of_ble_eq_true rfl)
  intro p e s m below meth c ls hx hb hr hts hown hlocks hin hml hZ hl
  have hP : hq_P cs G (fun _ => false) V V := hq_P.rf hI
  have hl : lv_has ls 2 [(0, .ref (x)), (1, .int (k))] := hl
  have hb_k := hq_rng k
  have hb_c_fs := hq_rng c_fs
  have hb_q_fk := hq_rng q_fk
  have hb_q_fp := hq_rng q_fp
  have hb_q_nx := hq_rng q_nx
  have hb_q_tk := hq_rng q_tk
  have hb_q_st := hq_rng q_st
  refine lv_iload_n hx hb dX11_fault_0 rfl (lv_at hl 1 rfl) ?_
  rcases Classical.em (k = 0) with h1 | h1
  · refine lv_lookup (off := 27) (tgt := 28) hx hb dX11_fault_1 (by decide) (by rw [h1]; decide) (by decide) ?_
    have b2 : (k).toInt = 0 := by rw [h1]; decide
    refine lv_aload_n hx hb dX11_fault_28 rfl (lv_at hl 0 rfl) ?_
    refine hp_get (v := .ref (c_pa)) hx hb hts hown hZ ho_x fl_X11_21 rfl dX11_fault_29 ?_
    refine hp_get (v := .int (q_fk)) hx hb hts hown hZ ho_c_pa fl_X11_90 rfl dX11_fault_32 ?_
    exact hp_iret hx hb hr hlocks hZ ⟨rfl, hP, ho_x, ho_c_pa, trivial⟩ dX11_fault_35
  ·
    rcases Classical.em (k = 1) with h3 | h3
    · refine lv_lookup (off := 35) (tgt := 36) hx hb dX11_fault_1 (by decide) (by rw [h3]; decide) (by decide) ?_
      have b4 : (k).toInt = 1 := by rw [h3]; decide
      refine lv_aload_n hx hb dX11_fault_36 rfl (lv_at hl 0 rfl) ?_
      refine hp_get (v := .ref (c_pa)) hx hb hts hown hZ ho_x fl_X11_21 rfl dX11_fault_37 ?_
      refine hp_get (v := .int (q_fp)) hx hb hts hown hZ ho_c_pa fl_X11_93 rfl dX11_fault_40 ?_
      exact hp_iret hx hb hr hlocks hZ ⟨rfl, hP, ho_x, ho_c_pa, trivial⟩ dX11_fault_43
    ·
      have z5 : ¬ (k).toInt = 0 := lv_neT h1 (by decide)
      have z6 : ¬ (k).toInt = 1 := lv_neT h3 (by decide)
      refine lv_lookup (off := 43) (tgt := 44) hx hb dX11_fault_1 (by decide) ((lv_osw h1 (by decide)).trans ((lv_osw h3 (by decide)).trans (rfl))) (by decide) ?_
      refine lv_iconst (v := -1) hx hb dX11_fault_44 (by decide) ?_
      exact hp_iret hx hb hr hlocks hZ ⟨rfl, hP, ho_x, ho_c_pa, trivial⟩ dX11_fault_45

set_option maxHeartbeats 4000000 in
set_option maxRecDepth 100000 in
theorem t_X11_verb_1 (l : Launch) (D : va_G) (cs : Nat → ClassId) (B : Nat) (G : hq_G) (V : hp_V) (n : Nat) (hI : hq_I cs G V) (x : Nat) (h_x : G x = some (15, 0, 0, 0)) (v : Int32) (k : Int32) {c_tp c_pa c_mk c_sv c_ex c_lr c_fo c_to c_sp : Nat} {c_fs : Int32} (ho_x : V x = some (.inr (11, [.ref (c_tp), .ref (c_pa), .ref (c_mk), .ref (c_sv), .ref (c_ex), .ref (c_lr), .ref (c_fo), .int (c_fs), .ref (c_to), .ref (c_sp)]))) (h_c_tp : G c_tp = some (0, 4000, 0, 0)) (h_c_pa : G c_pa = some (10, 0, 0, 0)) (h_c_mk : G c_mk = some (11, 0, 0, 0)) (h_c_sv : G c_sv = some (12, 0, 0, 0)) (h_c_ex : G c_ex = some (14, 0, 0, 0)) (h_c_lr : G c_lr = some (4, 5, 8, 0)) (h_c_fo : G c_fo = some (2, 0, 60, 0)) (h_c_to : G c_to = some (6, 1, 0, 0)) (h_c_sp : G c_sp = some (6, 0, 0, 0)) (hi_x0 : 0 ≤ c_fs.toInt ∧ c_fs.toInt ≤ 60) : hp_M l yX11_verb cX11_verb 3 (some .int) ({ frames := 2, cells := 0, slots := 0, locals := 42 }) D cs B V n [.ref (x), .int (v), .int (k)] (hp_QI D cs B (fun r V' n' => n = n' ∧ hq_P cs G (fun _ => false) V V' ∧ (V' x = some (.inr (11, [.ref (c_tp), .ref (c_pa), .ref (c_mk), .ref (c_sv), .ref (c_ex), .ref (c_lr), .ref (c_fo), .int (c_fs), .ref (c_to), .ref (c_sp)]))) ∧ True)) 0 0 := by
  refine hp_walk (R0 := RX11) (by decide) rfl ?_ (Nat.le_of_ble_eq_true rfl)
  intro p e s m below meth c ls hx hb hr hts hown hlocks hin hml hZ hl
  have hP : hq_P cs G (fun _ => false) V V := hq_P.rf hI
  have hl : lv_has ls 3 [(0, .ref (x)), (1, .int (v)), (2, .int (k))] := hl
  have hb_v := hq_rng v
  have hb_k := hq_rng k
  have hb_c_fs := hq_rng c_fs
  refine lv_iload_n hx hb dX11_verb_0 rfl (lv_at hl 1 rfl) ?_
  refine lv_if_lt (tgt := 15) hx hb dX11_verb_1 (by decide) (fun c1 => ?_) (fun c1 => ?_)
  · have c1 : (v).toInt < (0 : Int) := hq_lti.mp c1
    refine lv_iconst (v := -1) hx hb dX11_verb_15 (by decide) ?_
    exact hp_iret hx hb hr hlocks hZ ⟨rfl, hP, ho_x, trivial⟩ dX11_verb_16
  · have c1 : ¬ (v).toInt < (0 : Int) := fun h9 => c1 (hq_lti.mpr h9)
    refine lv_iload_n hx hb dX11_verb_4 rfl (lv_at hl 1 rfl) ?_
    refine lv_aload_n hx hb dX11_verb_5 rfl (lv_at hl 0 rfl) ?_
    refine hp_get (v := .ref (c_to)) hx hb hts hown hZ ho_x fl_X11_64 rfl dX11_verb_6 ?_
    obtain ⟨u3, u4, u5, u6, z7, z8, z9, eV2, hu10, hu11, hu12, hu13, ⟨h14, h15⟩, ⟨h16, h17⟩, h18, h19⟩ := hq_o6 hP.1 h_c_to
    refine hp_get (v := .int (z8)) hx hb hts hown hZ eV2 fl_X11_96 rfl dX11_verb_9 ?_
    refine lv_icmp_lt (tgt := 17) hx hb dX11_verb_12 (by decide) (fun c20 => ?_) (fun c20 => ?_)
    · have c20 : (v).toInt < (z8).toInt := hq_lti.mp c20
      refine lv_iload_n hx hb dX11_verb_17 rfl (lv_at hl 2 rfl) ?_
      rcases Classical.em (k = 0) with h21 | h21
      · refine lv_lookup (off := 26) (tgt := 44) hx hb dX11_verb_18 (by decide) (by rw [h21]; decide) (by decide) ?_
        have b22 : (k).toInt = 0 := by rw [h21]; decide
        refine lv_aload_n hx hb dX11_verb_44 rfl (lv_at hl 0 rfl) ?_
        refine hp_get (v := .ref (c_to)) hx hb hts hown hZ ho_x fl_X11_64 rfl dX11_verb_45 ?_
        refine hp_get (v := .ref (u5)) hx hb hts hown hZ eV2 fl_X11_99 rfl dX11_verb_48 ?_
        refine lv_iload_n hx hb dX11_verb_51 rfl (lv_at hl 1 rfl) ?_
        obtain ⟨hN25, g24, eV23, hf26⟩ := hq_o2 hP.1 hu12
        refine hp_iald hx hb hZ eV23 (hq_in (by omega) (by omega)) dX11_verb_52 ?_
        refine lv_topi (fun y27 ey28 => ?_)
        have b29 := hq_rng y27
        exact hp_iret hx hb hr hlocks hZ ⟨rfl, hP, ho_x, trivial⟩ dX11_verb_53
      ·
        rcases Classical.em (k = 1) with h30 | h30
        · refine lv_lookup (off := 36) (tgt := 54) hx hb dX11_verb_18 (by decide) (by rw [h30]; decide) (by decide) ?_
          have b31 : (k).toInt = 1 := by rw [h30]; decide
          refine lv_aload_n hx hb dX11_verb_54 rfl (lv_at hl 0 rfl) ?_
          refine hp_get (v := .ref (c_to)) hx hb hts hown hZ ho_x fl_X11_64 rfl dX11_verb_55 ?_
          refine hp_get (v := .ref (u4)) hx hb hts hown hZ eV2 fl_X11_102 rfl dX11_verb_58 ?_
          refine lv_iload_n hx hb dX11_verb_61 rfl (lv_at hl 1 rfl) ?_
          obtain ⟨hN34, g33, eV32, hf35, _⟩ := hq_o4 hP.1 hu11
          obtain ⟨u36, hx37, hu38⟩ := hf35 (v : Int32).toNatClampNeg (hq_ix (by omega) (by omega))
          have hu38 : G u36 = some (0, 12, 0, 0) := hu38
          refine hp_aald (v := .ref (u36)) hx hb hZ 7 eV32 rfl (hq_in (by omega) (by omega)) (by rw [hx37]; rfl) dX11_verb_62 ?_
          obtain ⟨u40, z41, eV39, hu42, h43, h44, h45⟩ := hq_o0 hP.1 hu38
          refine hp_get (v := .int (z41)) hx hb hts hown hZ eV39 fl_X11_71 rfl dX11_verb_63 ?_
          exact hp_iret hx hb hr hlocks hZ ⟨rfl, hP, ho_x, trivial⟩ dX11_verb_66
        ·
          have z46 : ¬ (k).toInt = 0 := lv_neT h21 (by decide)
          have z47 : ¬ (k).toInt = 1 := lv_neT h30 (by decide)
          refine lv_lookup (off := 49) (tgt := 67) hx hb dX11_verb_18 (by decide) ((lv_osw h21 (by decide)).trans ((lv_osw h30 (by decide)).trans (rfl))) (by decide) ?_
          refine lv_iload_n hx hb dX11_verb_67 rfl (lv_at hl 2 rfl) ?_
          refine lv_bipush (v := 10) hx hb dX11_verb_68 (by decide) ?_
          refine lv_icmp_ge (tgt := 77) hx hb dX11_verb_70 (by decide) (fun c48 => ?_) (fun c48 => ?_)
          · have c48 : (10 : Int) ≤ (k).toInt := hq_lei.mp c48
            refine lv_aload_n hx hb dX11_verb_77 rfl (lv_at hl 0 rfl) ?_
            refine hp_get (v := .ref (c_to)) hx hb hts hown hZ ho_x fl_X11_64 rfl dX11_verb_78 ?_
            refine hp_get (v := .ref (u4)) hx hb hts hown hZ eV2 fl_X11_102 rfl dX11_verb_81 ?_
            refine lv_iload_n hx hb dX11_verb_84 rfl (lv_at hl 1 rfl) ?_
            obtain ⟨hN51, g50, eV49, hf52, _⟩ := hq_o4 hP.1 hu11
            obtain ⟨u53, hx54, hu55⟩ := hf52 (v : Int32).toNatClampNeg (hq_ix (by omega) (by omega))
            have hu55 : G u53 = some (0, 12, 0, 0) := hu55
            refine hp_aald (v := .ref (u53)) hx hb hZ 7 eV49 rfl (hq_in (by omega) (by omega)) (by rw [hx54]; rfl) dX11_verb_85 ?_
            refine lv_iload_n hx hb dX11_verb_86 rfl (lv_at hl 2 rfl) ?_
            refine lv_bipush (v := 10) hx hb dX11_verb_87 (by decide) ?_
            refine lv_isub hx hb dX11_verb_89 ?_
            refine lv_topi (fun y56 ey57 => ?_)
            obtain ⟨k58, hk59, b60, b61⟩ := hq_sub (k) (10)
            rw [← ey57] at hk59 b60 b61
            have hk59 : (y56).toInt = (k).toInt - (10 : Int) + k58 * 4294967296 := hk59
            obtain ⟨u69, z70, eV68, hu71, h72, h73, h74⟩ := hq_o0 hP.1 hu55
            refine hp_calli (hp_runV (As := [.int (y56)]) (rest := []) hx hb hml hown hts (t_X9_at l D cs B G  V n hP.1 _ (u53) hu55 (y56) ) hZ eV68 cv_X11_106 rfl rfl ⟨Nat.le_of_ble_eq_true rfl, Nat.le_of_ble_eq_true rfl⟩ rfl hl.1 rfl (Nat.le_of_ble_eq_true rfl) dX11_verb_90 ⟨(Nat.le_of_ble_eq_true rfl), (Nat.le_of_ble_eq_true rfl)⟩) hZ (fun r65 V62 n63 _ _ hw64 hZ => ?_)
            obtain ⟨rfl, hq66, hr67⟩ := hw64
            have hP := hP.trans hq66 (fun _ _ => rfl)
            have b75 := hq_rng r65
            have fx76 : V62 (x) = some (.inr (11, [.ref (c_tp), .ref (c_pa), .ref (c_mk), .ref (c_sv), .ref (c_ex), .ref (c_lr), .ref (c_fo), .int (c_fs), .ref (c_to), .ref (c_sp)])) := (hq66.2 (x) _ h_x rfl).trans (ho_x)
            exact hp_iret hx hb hr hlocks hZ ⟨rfl, hP, fx76, trivial⟩ dX11_verb_93
          · have c48 : ¬ (10 : Int) ≤ (k).toInt := fun h9 => c48 (hq_lei.mpr h9)
            refine lv_iconst (v := -1) hx hb dX11_verb_73 (by decide) ?_
            refine lv_goto (tgt := 93) hx hb dX11_verb_74 (by decide) ?_
            exact hp_iret hx hb hr hlocks hZ ⟨rfl, hP, ho_x, trivial⟩ dX11_verb_93
    · have c20 : ¬ (v).toInt < (z8).toInt := fun h9 => c20 (hq_lti.mpr h9)
      refine lv_iconst (v := -1) hx hb dX11_verb_15 (by decide) ?_
      exact hp_iret hx hb hr hlocks hZ ⟨rfl, hP, ho_x, trivial⟩ dX11_verb_16

set_option maxHeartbeats 4000000 in
set_option maxRecDepth 100000 in
theorem t_X11_line_1 (l : Launch) (D : va_G) (cs : Nat → ClassId) (B : Nat) (G : hq_G) (V : hp_V) (n : Nat) (hI : hq_I cs G V) (x : Nat) (h_x : G x = some (15, 0, 0, 0)) (v : Int32) (k : Int32) {c_tp c_pa c_mk c_sv c_ex c_lr c_fo c_to c_sp : Nat} {c_fs : Int32} (ho_x : V x = some (.inr (11, [.ref (c_tp), .ref (c_pa), .ref (c_mk), .ref (c_sv), .ref (c_ex), .ref (c_lr), .ref (c_fo), .int (c_fs), .ref (c_to), .ref (c_sp)]))) (h_c_tp : G c_tp = some (0, 4000, 0, 0)) (h_c_pa : G c_pa = some (10, 0, 0, 0)) (h_c_mk : G c_mk = some (11, 0, 0, 0)) (h_c_sv : G c_sv = some (12, 0, 0, 0)) (h_c_ex : G c_ex = some (14, 0, 0, 0)) (h_c_lr : G c_lr = some (4, 5, 8, 0)) (h_c_fo : G c_fo = some (2, 0, 60, 0)) (h_c_to : G c_to = some (6, 1, 0, 0)) (h_c_sp : G c_sp = some (6, 0, 0, 0)) (hi_x0 : 0 ≤ c_fs.toInt ∧ c_fs.toInt ≤ 60) : hp_M l yX11_line cX11_line 4 (some .int) ({ frames := 1, cells := 0, slots := 0, locals := 21 }) D cs B V n [.ref (x), .int (v), .int (k)] (hp_QI D cs B (fun r V' n' => n = n' ∧ hq_P cs G (fun _ => false) V V' ∧ (V' x = some (.inr (11, [.ref (c_tp), .ref (c_pa), .ref (c_mk), .ref (c_sv), .ref (c_ex), .ref (c_lr), .ref (c_fo), .int (c_fs), .ref (c_to), .ref (c_sp)]))) ∧ True)) 0 0 := by
  refine hp_walk (R0 := RX11) (by decide) rfl ?_ (Nat.le_of_ble_eq_true rfl)
  intro p e s m below meth c ls hx hb hr hts hown hlocks hin hml hZ hl
  have hP : hq_P cs G (fun _ => false) V V := hq_P.rf hI
  have hl : lv_has ls 4 [(0, .ref (x)), (1, .int (v)), (2, .int (k))] := hl
  have hb_v := hq_rng v
  have hb_k := hq_rng k
  have hb_c_fs := hq_rng c_fs
  refine lv_iload_n hx hb dX11_line_0 rfl (lv_at hl 1 rfl) ?_
  refine lv_if_lt (tgt := 15) hx hb dX11_line_1 (by decide) (fun c1 => ?_) (fun c1 => ?_)
  · have c1 : (v).toInt < (0 : Int) := hq_lti.mp c1
    refine lv_bipush (v := -9) hx hb dX11_line_15 (by decide) ?_
    exact hp_iret hx hb hr hlocks hZ ⟨rfl, hP, ho_x, trivial⟩ dX11_line_17
  · have c1 : ¬ (v).toInt < (0 : Int) := fun h9 => c1 (hq_lti.mpr h9)
    refine lv_iload_n hx hb dX11_line_4 rfl (lv_at hl 1 rfl) ?_
    refine lv_aload_n hx hb dX11_line_5 rfl (lv_at hl 0 rfl) ?_
    refine hp_get (v := .ref (c_to)) hx hb hts hown hZ ho_x fl_X11_64 rfl dX11_line_6 ?_
    obtain ⟨u3, u4, u5, u6, z7, z8, z9, eV2, hu10, hu11, hu12, hu13, ⟨h14, h15⟩, ⟨h16, h17⟩, h18, h19⟩ := hq_o6 hP.1 h_c_to
    refine hp_get (v := .int (z9)) hx hb hts hown hZ eV2 fl_X11_87 rfl dX11_line_9 ?_
    refine lv_icmp_lt (tgt := 18) hx hb dX11_line_12 (by decide) (fun c20 => ?_) (fun c20 => ?_)
    · have c20 : (v).toInt < (z9).toInt := hq_lti.mp c20
      refine lv_aload_n hx hb dX11_line_18 rfl (lv_at hl 0 rfl) ?_
      refine hp_get (v := .ref (c_to)) hx hb hts hown hZ ho_x fl_X11_64 rfl dX11_line_19 ?_
      refine hp_get (v := .ref (u6)) hx hb hts hown hZ eV2 fl_X11_110 rfl dX11_line_22 ?_
      refine lv_iload_n hx hb dX11_line_25 rfl (lv_at hl 1 rfl) ?_
      obtain ⟨hN23, g22, eV21, hf24, _⟩ := hq_o4 hP.1 hu13
      obtain ⟨u25, hx26, hu27⟩ := hf24 (v : Int32).toNatClampNeg (hq_ix (by omega) (by omega))
      have hu27 : G u25 = some (5, 1, 0, 0) := hu27
      refine hp_aald (v := .ref (u25)) hx hb hZ 6 eV21 rfl (hq_in (by omega) (by omega)) (by rw [hx26]; rfl) dX11_line_26 ?_
      refine lv_astore_n (lv' := [(3, .ref (u25)), (0, .ref (x)), (1, .int (v)), (2, .int (k))]) hx hb dX11_line_27 rfl hl (by decide) rfl (fun ls hl => ?_)
      refine lv_iload_n hx hb dX11_line_28 rfl (lv_at hl 3 rfl) ?_
      rcases Classical.em (k = 0) with h28 | h28
      · refine lv_tableIn (off := 43) (tgt := 72) hx hb dX11_line_29 (by rw [h28]; decide) (by rw [h28]; decide) (by rw [h28]; decide) (by decide) ?_
        have b29 : (k).toInt = 0 := by rw [h28]; decide
        refine lv_aload_n hx hb dX11_line_72 rfl (lv_at hl 0 rfl) ?_
        obtain ⟨z31, z32, z33, z34, z35, z36, z37, z38, u39, u40, eV30, hu41, hu42, h43, h44⟩ := hq_o5 hP.1 hu27
        refine hp_get (v := .int (z31)) hx hb hts hown hZ eV30 fl_X11_114 rfl dX11_line_73 ?_
        exact hp_iret hx hb hr hlocks hZ ⟨rfl, hP, ho_x, trivial⟩ dX11_line_76
      ·
        rcases Classical.em (k = 1) with h45 | h45
        · refine lv_tableIn (off := 48) (tgt := 77) hx hb dX11_line_29 (by rw [h45]; decide) (by rw [h45]; decide) (by rw [h45]; decide) (by decide) ?_
          have b46 : (k).toInt = 1 := by rw [h45]; decide
          refine lv_aload_n hx hb dX11_line_77 rfl (lv_at hl 0 rfl) ?_
          obtain ⟨z48, z49, z50, z51, z52, z53, z54, z55, u56, u57, eV47, hu58, hu59, h60, h61⟩ := hq_o5 hP.1 hu27
          refine hp_get (v := .int (z49)) hx hb hts hown hZ eV47 fl_X11_119 rfl dX11_line_78 ?_
          exact hp_iret hx hb hr hlocks hZ ⟨rfl, hP, ho_x, trivial⟩ dX11_line_81
        ·
          rcases Classical.em (k = 2) with h62 | h62
          · refine lv_tableIn (off := 53) (tgt := 82) hx hb dX11_line_29 (by rw [h62]; decide) (by rw [h62]; decide) (by rw [h62]; decide) (by decide) ?_
            have b63 : (k).toInt = 2 := by rw [h62]; decide
            refine lv_aload_n hx hb dX11_line_82 rfl (lv_at hl 0 rfl) ?_
            obtain ⟨z65, z66, z67, z68, z69, z70, z71, z72, u73, u74, eV64, hu75, hu76, h77, h78⟩ := hq_o5 hP.1 hu27
            refine hp_get (v := .int (z67)) hx hb hts hown hZ eV64 fl_X11_122 rfl dX11_line_83 ?_
            exact hp_iret hx hb hr hlocks hZ ⟨rfl, hP, ho_x, trivial⟩ dX11_line_86
          ·
            rcases Classical.em (k = 3) with h79 | h79
            · refine lv_tableIn (off := 58) (tgt := 87) hx hb dX11_line_29 (by rw [h79]; decide) (by rw [h79]; decide) (by rw [h79]; decide) (by decide) ?_
              have b80 : (k).toInt = 3 := by rw [h79]; decide
              refine lv_aload_n hx hb dX11_line_87 rfl (lv_at hl 0 rfl) ?_
              obtain ⟨z82, z83, z84, z85, z86, z87, z88, z89, u90, u91, eV81, hu92, hu93, h94, h95⟩ := hq_o5 hP.1 hu27
              refine hp_get (v := .int (z85)) hx hb hts hown hZ eV81 fl_X11_125 rfl dX11_line_88 ?_
              exact hp_iret hx hb hr hlocks hZ ⟨rfl, hP, ho_x, trivial⟩ dX11_line_91
            ·
              rcases Classical.em (k = 4) with h96 | h96
              · refine lv_tableIn (off := 63) (tgt := 92) hx hb dX11_line_29 (by rw [h96]; decide) (by rw [h96]; decide) (by rw [h96]; decide) (by decide) ?_
                have b97 : (k).toInt = 4 := by rw [h96]; decide
                refine lv_aload_n hx hb dX11_line_92 rfl (lv_at hl 0 rfl) ?_
                obtain ⟨z99, z100, z101, z102, z103, z104, z105, z106, u107, u108, eV98, hu109, hu110, h111, h112⟩ := hq_o5 hP.1 hu27
                refine hp_get (v := .ref (u107)) hx hb hts hown hZ eV98 fl_X11_128 rfl dX11_line_93 ?_
                obtain ⟨u114, z115, eV113, hu116, h117, h118, h119⟩ := hq_o0 hP.1 hu109
                refine hp_get (v := .int (z115)) hx hb hts hown hZ eV113 fl_X11_71 rfl dX11_line_96 ?_
                exact hp_iret hx hb hr hlocks hZ ⟨rfl, hP, ho_x, trivial⟩ dX11_line_99
              ·
                rcases Classical.em (k = 5) with h120 | h120
                · refine lv_tableIn (off := 71) (tgt := 100) hx hb dX11_line_29 (by rw [h120]; decide) (by rw [h120]; decide) (by rw [h120]; decide) (by decide) ?_
                  have b121 : (k).toInt = 5 := by rw [h120]; decide
                  refine lv_aload_n hx hb dX11_line_100 rfl (lv_at hl 0 rfl) ?_
                  obtain ⟨z123, z124, z125, z126, z127, z128, z129, z130, u131, u132, eV122, hu133, hu134, h135, h136⟩ := hq_o5 hP.1 hu27
                  refine hp_get (v := .ref (u132)) hx hb hts hown hZ eV122 fl_X11_131 rfl dX11_line_101 ?_
                  obtain ⟨u138, z139, eV137, hu140, h141, h142, h143⟩ := hq_o0 hP.1 hu134
                  refine hp_get (v := .int (z139)) hx hb hts hown hZ eV137 fl_X11_71 rfl dX11_line_104 ?_
                  exact hp_iret hx hb hr hlocks hZ ⟨rfl, hP, ho_x, trivial⟩ dX11_line_107
                ·
                  rcases Classical.em (k = 6) with h144 | h144
                  · refine lv_tableIn (off := 79) (tgt := 108) hx hb dX11_line_29 (by rw [h144]; decide) (by rw [h144]; decide) (by rw [h144]; decide) (by decide) ?_
                    have b145 : (k).toInt = 6 := by rw [h144]; decide
                    refine lv_aload_n hx hb dX11_line_108 rfl (lv_at hl 0 rfl) ?_
                    obtain ⟨z147, z148, z149, z150, z151, z152, z153, z154, u155, u156, eV146, hu157, hu158, h159, h160⟩ := hq_o5 hP.1 hu27
                    refine hp_get (v := .int (z147)) hx hb hts hown hZ eV146 fl_X11_114 rfl dX11_line_109 ?_
                    refine lv_iconst (v := 3) hx hb dX11_line_112 (by decide) ?_
                    refine lv_icmp_ne (tgt := 123) hx hb dX11_line_113 (by decide) (fun c161 => ?_) (fun c161 => ?_)
                    · have c161 : ¬ (z147).toInt = (3 : Int) := fun h9 => c161 (hq_eqi.mpr h9)
                      refine lv_aload_n hx hb dX11_line_123 rfl (lv_at hl 0 rfl) ?_
                      refine hp_get (v := .int (z154)) hx hb hts hown hZ eV146 fl_X11_137 rfl dX11_line_124 ?_
                      refine lv_if_eq (tgt := 134) hx hb dX11_line_127 (by decide) (fun c162 => ?_) (fun c162 => ?_)
                      · have c162 : (z154).toInt = (0 : Int) := hq_eqi.mp c162
                        refine lv_iconst (v := 0) hx hb dX11_line_134 (by decide) ?_
                        exact hp_iret hx hb hr hlocks hZ ⟨rfl, hP, ho_x, trivial⟩ dX11_line_135
                      · have c162 : ¬ (z154).toInt = (0 : Int) := fun h9 => c162 (hq_eqi.mpr h9)
                        refine lv_iconst (v := 1) hx hb dX11_line_130 (by decide) ?_
                        refine lv_goto (tgt := 135) hx hb dX11_line_131 (by decide) ?_
                        exact hp_iret hx hb hr hlocks hZ ⟨rfl, hP, ho_x, trivial⟩ dX11_line_135
                    · have c161 : (z147).toInt = (3 : Int) := hq_eqi.mp c161
                      refine lv_aload_n hx hb dX11_line_116 rfl (lv_at hl 0 rfl) ?_
                      refine hp_get (v := .int (z151)) hx hb hts hown hZ eV146 fl_X11_134 rfl dX11_line_117 ?_
                      refine lv_goto (tgt := 135) hx hb dX11_line_120 (by decide) ?_
                      exact hp_iret hx hb hr hlocks hZ ⟨rfl, hP, ho_x, trivial⟩ dX11_line_135
                  ·
                    have z163 : ¬ (k).toInt = 0 := lv_neT h28 (by decide)
                    have z164 : ¬ (k).toInt = 1 := lv_neT h45 (by decide)
                    have z165 : ¬ (k).toInt = 2 := lv_neT h62 (by decide)
                    have z166 : ¬ (k).toInt = 3 := lv_neT h79 (by decide)
                    have z167 : ¬ (k).toInt = 4 := lv_neT h96 (by decide)
                    have z168 : ¬ (k).toInt = 5 := lv_neT h120 (by decide)
                    have z169 : ¬ (k).toInt = 6 := lv_neT h144 (by decide)
                    refine lv_tableOut (tgt := 136) hx hb dX11_line_29 (by omega) (by decide) ?_
                    refine lv_bipush (v := -9) hx hb dX11_line_136 (by decide) ?_
                    exact hp_iret hx hb hr hlocks hZ ⟨rfl, hP, ho_x, trivial⟩ dX11_line_138
    · have c20 : ¬ (v).toInt < (z9).toInt := fun h9 => c20 (hq_lti.mpr h9)
      refine lv_bipush (v := -9) hx hb dX11_line_15 (by decide) ?_
      exact hp_iret hx hb hr hlocks hZ ⟨rfl, hP, ho_x, trivial⟩ dX11_line_17

set_option maxHeartbeats 4000000 in
set_option maxRecDepth 100000 in
theorem t_X11_count_1 (l : Launch) (D : va_G) (cs : Nat → ClassId) (B : Nat) (G : hq_G) (V : hp_V) (n : Nat) (hI : hq_I cs G V) (x : Nat) (h_x : G x = some (15, 0, 0, 0)) (k : Int32) {c_tp c_pa c_mk c_sv c_ex c_lr c_fo c_to c_sp : Nat} {c_fs : Int32} (ho_x : V x = some (.inr (11, [.ref (c_tp), .ref (c_pa), .ref (c_mk), .ref (c_sv), .ref (c_ex), .ref (c_lr), .ref (c_fo), .int (c_fs), .ref (c_to), .ref (c_sp)]))) (h_c_tp : G c_tp = some (0, 4000, 0, 0)) (h_c_pa : G c_pa = some (10, 0, 0, 0)) (h_c_mk : G c_mk = some (11, 0, 0, 0)) (h_c_sv : G c_sv = some (12, 0, 0, 0)) (h_c_ex : G c_ex = some (14, 0, 0, 0)) (h_c_lr : G c_lr = some (4, 5, 8, 0)) (h_c_fo : G c_fo = some (2, 0, 60, 0)) (h_c_to : G c_to = some (6, 1, 0, 0)) (h_c_sp : G c_sp = some (6, 0, 0, 0)) (hi_x0 : 0 ≤ c_fs.toInt ∧ c_fs.toInt ≤ 60) : hp_M l yX11_count cX11_count 2 (some .int) ({ frames := 1, cells := 0, slots := 0, locals := 21 }) D cs B V n [.ref (x), .int (k)] (hp_QI D cs B (fun r V' n' => n = n' ∧ hq_P cs G (fun _ => false) V V' ∧ (V' x = some (.inr (11, [.ref (c_tp), .ref (c_pa), .ref (c_mk), .ref (c_sv), .ref (c_ex), .ref (c_lr), .ref (c_fo), .int (c_fs), .ref (c_to), .ref (c_sp)]))) ∧ True)) 0 0 := by
  refine hp_walk (R0 := RX11) (by decide) rfl ?_ (Nat.le_of_ble_eq_true rfl)
  intro p e s m below meth c ls hx hb hr hts hown hlocks hin hml hZ hl
  have hP : hq_P cs G (fun _ => false) V V := hq_P.rf hI
  have hl : lv_has ls 2 [(0, .ref (x)), (1, .int (k))] := hl
  have hb_k := hq_rng k
  have hb_c_fs := hq_rng c_fs
  refine lv_iload_n hx hb dX11_count_0 rfl (lv_at hl 1 rfl) ?_
  rcases Classical.em (k = 0) with h1 | h1
  · refine lv_tableIn (off := 31) (tgt := 32) hx hb dX11_count_1 (by rw [h1]; decide) (by rw [h1]; decide) (by rw [h1]; decide) (by decide) ?_
    have b2 : (k).toInt = 0 := by rw [h1]; decide
    refine lv_aload_n hx hb dX11_count_32 rfl (lv_at hl 0 rfl) ?_
    refine hp_get (v := .ref (c_to)) hx hb hts hown hZ ho_x fl_X11_64 rfl dX11_count_33 ?_
    obtain ⟨u4, u5, u6, u7, z8, z9, z10, eV3, hu11, hu12, hu13, hu14, ⟨h15, h16⟩, ⟨h17, h18⟩, h19, h20⟩ := hq_o6 hP.1 h_c_to
    refine hp_get (v := .int (z8)) hx hb hts hown hZ eV3 fl_X11_282 rfl dX11_count_36 ?_
    exact hp_iret hx hb hr hlocks hZ ⟨rfl, hP, ho_x, trivial⟩ dX11_count_39
  ·
    rcases Classical.em (k = 1) with h21 | h21
    · refine lv_tableIn (off := 39) (tgt := 40) hx hb dX11_count_1 (by rw [h21]; decide) (by rw [h21]; decide) (by rw [h21]; decide) (by decide) ?_
      have b22 : (k).toInt = 1 := by rw [h21]; decide
      refine lv_aload_n hx hb dX11_count_40 rfl (lv_at hl 0 rfl) ?_
      refine hp_get (v := .ref (c_to)) hx hb hts hown hZ ho_x fl_X11_64 rfl dX11_count_41 ?_
      obtain ⟨u24, u25, u26, u27, z28, z29, z30, eV23, hu31, hu32, hu33, hu34, ⟨h35, h36⟩, ⟨h37, h38⟩, h39, h40⟩ := hq_o6 hP.1 h_c_to
      refine hp_get (v := .int (z29)) hx hb hts hown hZ eV23 fl_X11_96 rfl dX11_count_44 ?_
      exact hp_iret hx hb hr hlocks hZ ⟨rfl, hP, ho_x, trivial⟩ dX11_count_47
    ·
      rcases Classical.em (k = 2) with h41 | h41
      · refine lv_tableIn (off := 47) (tgt := 48) hx hb dX11_count_1 (by rw [h41]; decide) (by rw [h41]; decide) (by rw [h41]; decide) (by decide) ?_
        have b42 : (k).toInt = 2 := by rw [h41]; decide
        refine lv_aload_n hx hb dX11_count_48 rfl (lv_at hl 0 rfl) ?_
        refine hp_get (v := .ref (c_to)) hx hb hts hown hZ ho_x fl_X11_64 rfl dX11_count_49 ?_
        obtain ⟨u44, u45, u46, u47, z48, z49, z50, eV43, hu51, hu52, hu53, hu54, ⟨h55, h56⟩, ⟨h57, h58⟩, h59, h60⟩ := hq_o6 hP.1 h_c_to
        refine hp_get (v := .int (z50)) hx hb hts hown hZ eV43 fl_X11_87 rfl dX11_count_52 ?_
        exact hp_iret hx hb hr hlocks hZ ⟨rfl, hP, ho_x, trivial⟩ dX11_count_55
      ·
        rcases Classical.em (k = 3) with h61 | h61
        · refine lv_tableIn (off := 55) (tgt := 56) hx hb dX11_count_1 (by rw [h61]; decide) (by rw [h61]; decide) (by rw [h61]; decide) (by decide) ?_
          have b62 : (k).toInt = 3 := by rw [h61]; decide
          refine lv_aload_n hx hb dX11_count_56 rfl (lv_at hl 0 rfl) ?_
          refine hp_get (v := .ref (c_tp)) hx hb hts hown hZ ho_x fl_X11_14 rfl dX11_count_57 ?_
          obtain ⟨u64, z65, eV63, hu66, h67, h68, h69⟩ := hq_o0 hP.1 h_c_tp
          refine hp_get (v := .int (z65)) hx hb hts hown hZ eV63 fl_X11_71 rfl dX11_count_60 ?_
          exact hp_iret hx hb hr hlocks hZ ⟨rfl, hP, ho_x, trivial⟩ dX11_count_63
        ·
          have z70 : ¬ (k).toInt = 0 := lv_neT h1 (by decide)
          have z71 : ¬ (k).toInt = 1 := lv_neT h21 (by decide)
          have z72 : ¬ (k).toInt = 2 := lv_neT h41 (by decide)
          have z73 : ¬ (k).toInt = 3 := lv_neT h61 (by decide)
          refine lv_tableOut (tgt := 64) hx hb dX11_count_1 (by omega) (by decide) ?_
          refine lv_iconst (v := -1) hx hb dX11_count_64 (by decide) ?_
          exact hp_iret hx hb hr hlocks hZ ⟨rfl, hP, ho_x, trivial⟩ dX11_count_65

set_option maxHeartbeats 4000000 in
set_option maxRecDepth 100000 in
theorem t_X11_misses_1 (l : Launch) (D : va_G) (cs : Nat → ClassId) (B : Nat) (G : hq_G) (V : hp_V) (n : Nat) (hI : hq_I cs G V) (x : Nat) (h_x : G x = some (15, 0, 0, 0)) (k1 : Int32) (k2 : Int32) {c_tp c_pa c_mk c_sv c_ex c_lr c_fo c_to c_sp : Nat} {c_fs : Int32} (ho_x : V x = some (.inr (11, [.ref (c_tp), .ref (c_pa), .ref (c_mk), .ref (c_sv), .ref (c_ex), .ref (c_lr), .ref (c_fo), .int (c_fs), .ref (c_to), .ref (c_sp)]))) (h_c_tp : G c_tp = some (0, 4000, 0, 0)) (h_c_pa : G c_pa = some (10, 0, 0, 0)) (h_c_mk : G c_mk = some (11, 0, 0, 0)) (h_c_sv : G c_sv = some (12, 0, 0, 0)) (h_c_ex : G c_ex = some (14, 0, 0, 0)) (h_c_lr : G c_lr = some (4, 5, 8, 0)) (h_c_fo : G c_fo = some (2, 0, 60, 0)) (h_c_to : G c_to = some (6, 1, 0, 0)) (h_c_sp : G c_sp = some (6, 0, 0, 0)) (hi_x0 : 0 ≤ c_fs.toInt ∧ c_fs.toInt ≤ 60) : hp_M l yX11_misses cX11_misses 3 (some .int) ({ frames := 2, cells := 0, slots := 0, locals := 41 }) D cs B V n [.ref (x), .int (k1), .int (k2)] (hp_QI D cs B (fun r V' n' => n = n' ∧ hq_P cs G (fun _ => false) V V' ∧ (V' x = some (.inr (11, [.ref (c_tp), .ref (c_pa), .ref (c_mk), .ref (c_sv), .ref (c_ex), .ref (c_lr), .ref (c_fo), .int (c_fs), .ref (c_to), .ref (c_sp)]))) ∧ True)) 0 0 := by
  refine hp_walk (R0 := RX11) (by decide) rfl ?_ (Nat.le_of_ble_eq_true rfl)
  intro p e s m below meth c ls hx hb hr hts hown hlocks hin hml hZ hl
  have hP : hq_P cs G (fun _ => false) V V := hq_P.rf hI
  have hl : lv_has ls 3 [(0, .ref (x)), (1, .int (k1)), (2, .int (k2))] := hl
  have hb_k1 := hq_rng k1
  have hb_k2 := hq_rng k2
  have hb_c_fs := hq_rng c_fs
  refine lv_iload_n hx hb dX11_misses_0 rfl (lv_at hl 1 rfl) ?_
  refine hp_calli (hp_runS (As := [.int (k1)]) (rest := []) hx hb hml hown hts (t_X11_isLearner l D cs B G  V n hP.1  (k1) ) hZ cv_X11_218 rfl rfl ⟨Nat.le_of_ble_eq_true rfl, Nat.le_of_ble_eq_true rfl⟩ rfl hl.1 rfl (Nat.le_of_ble_eq_true rfl) dX11_misses_1 ⟨(Nat.le_of_ble_eq_true rfl), (Nat.le_of_ble_eq_true rfl)⟩) hZ (fun r4 V1 n2 _ _ hw3 hZ => ?_)
  obtain ⟨rfl, hq5, hr6⟩ := hw3
  have hP := hP.trans hq5 (fun _ _ => rfl)
  have b7 := hq_rng r4
  refine lv_if_eq (tgt := 22) hx hb dX11_misses_4 (by decide) (fun c8 => ?_) (fun c8 => ?_)
  · have c8 : (r4).toInt = (0 : Int) := hq_eqi.mp c8
    refine lv_bipush (v := -2) hx hb dX11_misses_22 (by decide) ?_
    have fx9 : V1 (x) = some (.inr (11, [.ref (c_tp), .ref (c_pa), .ref (c_mk), .ref (c_sv), .ref (c_ex), .ref (c_lr), .ref (c_fo), .int (c_fs), .ref (c_to), .ref (c_sp)])) := (hq5.2 (x) _ h_x rfl).trans (ho_x)
    exact hp_iret hx hb hr hlocks hZ ⟨rfl, hP, fx9, trivial⟩ dX11_misses_24
  · have c8 : ¬ (r4).toInt = (0 : Int) := fun h9 => c8 (hq_eqi.mpr h9)
    refine lv_iload_n hx hb dX11_misses_7 rfl (lv_at hl 2 rfl) ?_
    refine lv_if_lt (tgt := 22) hx hb dX11_misses_8 (by decide) (fun c10 => ?_) (fun c10 => ?_)
    · have c10 : (k2).toInt < (0 : Int) := hq_lti.mp c10
      refine lv_bipush (v := -2) hx hb dX11_misses_22 (by decide) ?_
      have fx11 : V1 (x) = some (.inr (11, [.ref (c_tp), .ref (c_pa), .ref (c_mk), .ref (c_sv), .ref (c_ex), .ref (c_lr), .ref (c_fo), .int (c_fs), .ref (c_to), .ref (c_sp)])) := (hq5.2 (x) _ h_x rfl).trans (ho_x)
      exact hp_iret hx hb hr hlocks hZ ⟨rfl, hP, fx11, trivial⟩ dX11_misses_24
    · have c10 : ¬ (k2).toInt < (0 : Int) := fun h9 => c10 (hq_lti.mpr h9)
      refine lv_iload_n hx hb dX11_misses_11 rfl (lv_at hl 2 rfl) ?_
      refine lv_aload_n hx hb dX11_misses_12 rfl (lv_at hl 0 rfl) ?_
      have fx12 : V1 (x) = some (.inr (11, [.ref (c_tp), .ref (c_pa), .ref (c_mk), .ref (c_sv), .ref (c_ex), .ref (c_lr), .ref (c_fo), .int (c_fs), .ref (c_to), .ref (c_sp)])) := (hq5.2 (x) _ h_x rfl).trans (ho_x)
      refine hp_get (v := .ref (c_to)) hx hb hts hown hZ fx12 fl_X11_64 rfl dX11_misses_13 ?_
      obtain ⟨u14, u15, u16, u17, z18, z19, z20, eV13, hu21, hu22, hu23, hu24, ⟨h25, h26⟩, ⟨h27, h28⟩, h29, h30⟩ := hq_o6 hP.1 h_c_to
      refine hp_get (v := .int (z20)) hx hb hts hown hZ eV13 fl_X11_87 rfl dX11_misses_16 ?_
      refine lv_icmp_lt (tgt := 25) hx hb dX11_misses_19 (by decide) (fun c31 => ?_) (fun c31 => ?_)
      · have c31 : (k2).toInt < (z20).toInt := hq_lti.mp c31
        refine lv_aload_n hx hb dX11_misses_25 rfl (lv_at hl 0 rfl) ?_
        refine hp_get (v := .ref (c_lr)) hx hb hts hown hZ fx12 fl_X11_48 rfl dX11_misses_26 ?_
        refine lv_iload_n hx hb dX11_misses_29 rfl (lv_at hl 1 rfl) ?_
        obtain ⟨hN34, g33, eV32, hf35, _⟩ := hq_o4 hP.1 h_c_lr
        obtain ⟨u36, hx37, hu38⟩ := hf35 (k1 : Int32).toNatClampNeg (hq_ix (by omega) (by omega))
        have hu38 : G u36 = some (9, 0, 0, 0) := hu38
        refine hp_aald (v := .ref (u36)) hx hb hZ 5 eV32 rfl (hq_in (by omega) (by omega)) (by rw [hx37]; rfl) dX11_misses_30 ?_
        obtain ⟨u40, u41, eV39, hu42, hu43⟩ := hq_o9 hP.1 hu38
        refine hp_get (v := .ref (u40)) hx hb hts hown hZ eV39 fl_X11_266 rfl dX11_misses_31 ?_
        refine lv_iload_n hx hb dX11_misses_34 rfl (lv_at hl 2 rfl) ?_
        obtain ⟨hN46, g45, eV44, hf47⟩ := hq_o2 hP.1 hu42
        refine hp_iald hx hb hZ eV44 (hq_in (by omega) (by omega)) dX11_misses_35 ?_
        refine lv_topi (fun y48 ey49 => ?_)
        have b50 := hq_rng y48
        exact hp_iret hx hb hr hlocks hZ ⟨rfl, hP, fx12, trivial⟩ dX11_misses_36
      · have c31 : ¬ (k2).toInt < (z20).toInt := fun h9 => c31 (hq_lti.mpr h9)
        refine lv_bipush (v := -2) hx hb dX11_misses_22 (by decide) ?_
        exact hp_iret hx hb hr hlocks hZ ⟨rfl, hP, fx12, trivial⟩ dX11_misses_24

set_option maxHeartbeats 4000000 in
set_option maxRecDepth 100000 in
theorem t_X11_place_1 (l : Launch) (D : va_G) (cs : Nat → ClassId) (B : Nat) (G : hq_G) (V : hp_V) (n : Nat) (hI : hq_I cs G V) (x : Nat) (h_x : G x = some (15, 0, 0, 0)) (k1 : Int32) (k2 : Int32) {c_tp c_pa c_mk c_sv c_ex c_lr c_fo c_to c_sp : Nat} {c_fs : Int32} (ho_x : V x = some (.inr (11, [.ref (c_tp), .ref (c_pa), .ref (c_mk), .ref (c_sv), .ref (c_ex), .ref (c_lr), .ref (c_fo), .int (c_fs), .ref (c_to), .ref (c_sp)]))) (h_c_tp : G c_tp = some (0, 4000, 0, 0)) (h_c_pa : G c_pa = some (10, 0, 0, 0)) (h_c_mk : G c_mk = some (11, 0, 0, 0)) (h_c_sv : G c_sv = some (12, 0, 0, 0)) (h_c_ex : G c_ex = some (14, 0, 0, 0)) (h_c_lr : G c_lr = some (4, 5, 8, 0)) (h_c_fo : G c_fo = some (2, 0, 60, 0)) (h_c_to : G c_to = some (6, 1, 0, 0)) (h_c_sp : G c_sp = some (6, 0, 0, 0)) (hi_x0 : 0 ≤ c_fs.toInt ∧ c_fs.toInt ≤ 60) : hp_M l yX11_place cX11_place 3 (some .int) ({ frames := 2, cells := 0, slots := 0, locals := 41 }) D cs B V n [.ref (x), .int (k1), .int (k2)] (hp_QI D cs B (fun r V' n' => n = n' ∧ hq_P cs G (fun _ => false) V V' ∧ (V' x = some (.inr (11, [.ref (c_tp), .ref (c_pa), .ref (c_mk), .ref (c_sv), .ref (c_ex), .ref (c_lr), .ref (c_fo), .int (c_fs), .ref (c_to), .ref (c_sp)]))) ∧ True)) 0 0 := by
  refine hp_walk (R0 := RX11) (by decide) rfl ?_ (Nat.le_of_ble_eq_true rfl)
  intro p e s m below meth c ls hx hb hr hts hown hlocks hin hml hZ hl
  have hP : hq_P cs G (fun _ => false) V V := hq_P.rf hI
  have hl : lv_has ls 3 [(0, .ref (x)), (1, .int (k1)), (2, .int (k2))] := hl
  have hb_k1 := hq_rng k1
  have hb_k2 := hq_rng k2
  have hb_c_fs := hq_rng c_fs
  refine lv_iload_n hx hb dX11_place_0 rfl (lv_at hl 1 rfl) ?_
  refine lv_if_lt (tgt := 12) hx hb dX11_place_1 (by decide) (fun c1 => ?_) (fun c1 => ?_)
  · have c1 : (k1).toInt < (0 : Int) := hq_lti.mp c1
    refine lv_iconst (v := -1) hx hb dX11_place_12 (by decide) ?_
    exact hp_iret hx hb hr hlocks hZ ⟨rfl, hP, ho_x, trivial⟩ dX11_place_13
  · have c1 : ¬ (k1).toInt < (0 : Int) := fun h9 => c1 (hq_lti.mpr h9)
    refine lv_iload_n hx hb dX11_place_4 rfl (lv_at hl 1 rfl) ?_
    refine lv_aload_n hx hb dX11_place_5 rfl (lv_at hl 0 rfl) ?_
    refine hp_get (v := .int (c_fs)) hx hb hts hown hZ ho_x fl_X11_57 rfl dX11_place_6 ?_
    refine lv_icmp_lt (tgt := 14) hx hb dX11_place_9 (by decide) (fun c2 => ?_) (fun c2 => ?_)
    · have c2 : (k1).toInt < (c_fs).toInt := hq_lti.mp c2
      refine lv_iload_n hx hb dX11_place_14 rfl (lv_at hl 2 rfl) ?_
      rcases Classical.em (k2 = 0) with h3 | h3
      · refine lv_tableIn (off := 25) (tgt := 40) hx hb dX11_place_15 (by rw [h3]; decide) (by rw [h3]; decide) (by rw [h3]; decide) (by decide) ?_
        have b4 : (k2).toInt = 0 := by rw [h3]; decide
        refine lv_aload_n hx hb dX11_place_40 rfl (lv_at hl 0 rfl) ?_
        refine hp_get (v := .ref (c_fo)) hx hb hts hown hZ ho_x fl_X11_53 rfl dX11_place_41 ?_
        refine lv_iload_n hx hb dX11_place_44 rfl (lv_at hl 1 rfl) ?_
        obtain ⟨hN7, g6, eV5, hf8⟩ := hq_o2 hP.1 h_c_fo
        refine hp_iald hx hb hZ eV5 (hq_in (by omega) (by omega)) dX11_place_45 ?_
        refine lv_topi (fun y9 ey10 => ?_)
        have b11 := hq_rng y9
        refine hp_calli (hp_runS (As := [.int (y9)]) (rest := []) hx hb hml hown hts (t_X11_verbOf_any l D cs B G  V n hP.1  (y9) ) hZ cv_X11_195 rfl rfl ⟨Nat.le_of_ble_eq_true rfl, Nat.le_of_ble_eq_true rfl⟩ rfl hl.1 rfl (Nat.le_of_ble_eq_true rfl) dX11_place_46 ⟨(Nat.le_of_ble_eq_true rfl), (Nat.le_of_ble_eq_true rfl)⟩) hZ (fun r15 V12 n13 _ _ hw14 hZ => ?_)
        obtain ⟨rfl, hq16, hr17⟩ := hw14
        have hP := hP.trans hq16 (fun _ _ => rfl)
        have b18 := hq_rng r15
        have fx19 : V12 (x) = some (.inr (11, [.ref (c_tp), .ref (c_pa), .ref (c_mk), .ref (c_sv), .ref (c_ex), .ref (c_lr), .ref (c_fo), .int (c_fs), .ref (c_to), .ref (c_sp)])) := (hq16.2 (x) _ h_x rfl).trans (ho_x)
        exact hp_iret hx hb hr hlocks hZ ⟨rfl, hP, fx19, trivial⟩ dX11_place_49
      ·
        rcases Classical.em (k2 = 1) with h20 | h20
        · refine lv_tableIn (off := 35) (tgt := 50) hx hb dX11_place_15 (by rw [h20]; decide) (by rw [h20]; decide) (by rw [h20]; decide) (by decide) ?_
          have b21 : (k2).toInt = 1 := by rw [h20]; decide
          refine lv_aload_n hx hb dX11_place_50 rfl (lv_at hl 0 rfl) ?_
          refine hp_get (v := .ref (c_fo)) hx hb hts hown hZ ho_x fl_X11_53 rfl dX11_place_51 ?_
          refine lv_iload_n hx hb dX11_place_54 rfl (lv_at hl 1 rfl) ?_
          obtain ⟨hN24, g23, eV22, hf25⟩ := hq_o2 hP.1 h_c_fo
          refine hp_iald hx hb hZ eV22 (hq_in (by omega) (by omega)) dX11_place_55 ?_
          refine lv_topi (fun y26 ey27 => ?_)
          have b28 := hq_rng y26
          refine hp_calli (hp_runS (As := [.int (y26)]) (rest := []) hx hb hml hown hts (t_X11_tenseOf_any l D cs B G  V n hP.1  (y26) ) hZ cv_X11_198 rfl rfl ⟨Nat.le_of_ble_eq_true rfl, Nat.le_of_ble_eq_true rfl⟩ rfl hl.1 rfl (Nat.le_of_ble_eq_true rfl) dX11_place_56 ⟨(Nat.le_of_ble_eq_true rfl), (Nat.le_of_ble_eq_true rfl)⟩) hZ (fun r32 V29 n30 _ _ hw31 hZ => ?_)
          obtain ⟨rfl, hq33, hr34⟩ := hw31
          have hP := hP.trans hq33 (fun _ _ => rfl)
          have b35 := hq_rng r32
          have fx36 : V29 (x) = some (.inr (11, [.ref (c_tp), .ref (c_pa), .ref (c_mk), .ref (c_sv), .ref (c_ex), .ref (c_lr), .ref (c_fo), .int (c_fs), .ref (c_to), .ref (c_sp)])) := (hq33.2 (x) _ h_x rfl).trans (ho_x)
          exact hp_iret hx hb hr hlocks hZ ⟨rfl, hP, fx36, trivial⟩ dX11_place_59
        ·
          rcases Classical.em (k2 = 2) with h37 | h37
          · refine lv_tableIn (off := 45) (tgt := 60) hx hb dX11_place_15 (by rw [h37]; decide) (by rw [h37]; decide) (by rw [h37]; decide) (by decide) ?_
            have b38 : (k2).toInt = 2 := by rw [h37]; decide
            refine lv_aload_n hx hb dX11_place_60 rfl (lv_at hl 0 rfl) ?_
            refine hp_get (v := .ref (c_fo)) hx hb hts hown hZ ho_x fl_X11_53 rfl dX11_place_61 ?_
            refine lv_iload_n hx hb dX11_place_64 rfl (lv_at hl 1 rfl) ?_
            obtain ⟨hN41, g40, eV39, hf42⟩ := hq_o2 hP.1 h_c_fo
            refine hp_iald hx hb hZ eV39 (hq_in (by omega) (by omega)) dX11_place_65 ?_
            refine lv_topi (fun y43 ey44 => ?_)
            have b45 := hq_rng y43
            refine hp_calli (hp_runS (As := [.int (y43)]) (rest := []) hx hb hml hown hts (t_X11_personOf_any l D cs B G  V n hP.1  (y43) ) hZ cv_X11_201 rfl rfl ⟨Nat.le_of_ble_eq_true rfl, Nat.le_of_ble_eq_true rfl⟩ rfl hl.1 rfl (Nat.le_of_ble_eq_true rfl) dX11_place_66 ⟨(Nat.le_of_ble_eq_true rfl), (Nat.le_of_ble_eq_true rfl)⟩) hZ (fun r49 V46 n47 _ _ hw48 hZ => ?_)
            obtain ⟨rfl, hq50, hr51⟩ := hw48
            have hP := hP.trans hq50 (fun _ _ => rfl)
            have b52 := hq_rng r49
            have fx53 : V46 (x) = some (.inr (11, [.ref (c_tp), .ref (c_pa), .ref (c_mk), .ref (c_sv), .ref (c_ex), .ref (c_lr), .ref (c_fo), .int (c_fs), .ref (c_to), .ref (c_sp)])) := (hq50.2 (x) _ h_x rfl).trans (ho_x)
            exact hp_iret hx hb hr hlocks hZ ⟨rfl, hP, fx53, trivial⟩ dX11_place_69
          ·
            have z54 : ¬ (k2).toInt = 0 := lv_neT h3 (by decide)
            have z55 : ¬ (k2).toInt = 1 := lv_neT h20 (by decide)
            have z56 : ¬ (k2).toInt = 2 := lv_neT h37 (by decide)
            refine lv_tableOut (tgt := 70) hx hb dX11_place_15 (by omega) (by decide) ?_
            refine lv_iconst (v := -1) hx hb dX11_place_70 (by decide) ?_
            exact hp_iret hx hb hr hlocks hZ ⟨rfl, hP, ho_x, trivial⟩ dX11_place_71
    · have c2 : ¬ (k1).toInt < (c_fs).toInt := fun h9 => c2 (hq_lti.mpr h9)
      refine lv_iconst (v := -1) hx hb dX11_place_12 (by decide) ?_
      exact hp_iret hx hb hr hlocks hZ ⟨rfl, hP, ho_x, trivial⟩ dX11_place_13

set_option maxHeartbeats 4000000 in
set_option maxRecDepth 100000 in
theorem t_X11_rivals_1 (l : Launch) (D : va_G) (cs : Nat → ClassId) (B : Nat) (G : hq_G) (V : hp_V) (n : Nat) (hI : hq_I cs G V) (x : Nat) (h_x : G x = some (15, 0, 0, 0)) (v : Int32) (te : Int32) (pe : Int32) {c_tp c_pa c_mk c_sv c_ex c_lr c_fo c_to c_sp : Nat} {c_fs : Int32} (ho_x : V x = some (.inr (11, [.ref (c_tp), .ref (c_pa), .ref (c_mk), .ref (c_sv), .ref (c_ex), .ref (c_lr), .ref (c_fo), .int (c_fs), .ref (c_to), .ref (c_sp)]))) (h_c_tp : G c_tp = some (0, 4000, 0, 0)) (h_c_pa : G c_pa = some (10, 0, 0, 0)) (h_c_mk : G c_mk = some (11, 0, 0, 0)) (h_c_sv : G c_sv = some (12, 0, 0, 0)) (h_c_ex : G c_ex = some (14, 0, 0, 0)) (h_c_lr : G c_lr = some (4, 5, 8, 0)) (h_c_fo : G c_fo = some (2, 0, 60, 0)) (h_c_to : G c_to = some (6, 1, 0, 0)) (h_c_sp : G c_sp = some (6, 0, 0, 0)) (hi_x0 : 0 ≤ c_fs.toInt ∧ c_fs.toInt ≤ 60) : hp_M l yX11_rivals cX11_rivals 6 (some .int) ({ frames := 3, cells := 0, slots := 0, locals := 66 }) D cs B V n [.ref (x), .int (v), .int (te), .int (pe)] (hp_QI D cs B (fun r V' n' => n = n' ∧ hq_P cs G (fun _ => false) V V' ∧ (V' x = some (.inr (11, [.ref (c_tp), .ref (c_pa), .ref (c_mk), .ref (c_sv), .ref (c_ex), .ref (c_lr), .ref (c_fo), .int (c_fs), .ref (c_to), .ref (c_sp)]))) ∧ True)) 0 0 := by
  refine hp_walk (R0 := RX11) (by decide) rfl ?_ (Nat.le_of_ble_eq_true rfl)
  intro p e s m below meth c ls hx hb hr hts hown hlocks hin hml hZ hl
  have hP : hq_P cs G (fun _ => false) V V := hq_P.rf hI
  have hl : lv_has ls 6 [(0, .ref (x)), (1, .int (v)), (2, .int (te)), (3, .int (pe))] := hl
  have hb_v := hq_rng v
  have hb_te := hq_rng te
  have hb_pe := hq_rng pe
  have hb_c_fs := hq_rng c_fs
  refine lv_aload_n hx hb dX11_rivals_0 rfl (lv_at hl 0 rfl) ?_
  refine lv_iload_n hx hb dX11_rivals_1 rfl (lv_at hl 1 rfl) ?_
  refine lv_iload_n hx hb dX11_rivals_2 rfl (lv_at hl 2 rfl) ?_
  refine lv_iload_n hx hb dX11_rivals_3 rfl (lv_at hl 3 rfl) ?_
  refine hp_calli (hp_runV (As := [.int (v), .int (te), .int (pe)]) (rest := []) hx hb hml hown hts (t_X11_isPlace_1 l D cs B G  V n hP.1  (x) h_x (v) (te) (pe) ho_x h_c_tp h_c_pa h_c_mk h_c_sv h_c_ex h_c_lr h_c_fo h_c_to h_c_sp (by omega) ) hZ ho_x cv_X11_141 rfl rfl ⟨Nat.le_of_ble_eq_true rfl, Nat.le_of_ble_eq_true rfl⟩ rfl hl.1 rfl (Nat.le_of_ble_eq_true rfl) dX11_rivals_4 ⟨(Nat.le_of_ble_eq_true rfl), (Nat.le_of_ble_eq_true rfl)⟩) hZ (fun r4 V1 n2 _ _ hw3 hZ => ?_)
  obtain ⟨rfl, hq5, ho7, hr6⟩ := hw3
  have hP := hP.trans hq5 (fun _ _ => rfl)
  have b8 := hq_rng r4
  refine lv_if_ne (tgt := 13) hx hb dX11_rivals_7 (by decide) (fun c9 => ?_) (fun c9 => ?_)
  · have c9 : ¬ (r4).toInt = (0 : Int) := fun h9 => c9 (hq_eqi.mpr h9)
    refine lv_iconst (v := 0) hx hb dX11_rivals_13 (by decide) ?_
    refine lv_istore (lv' := [(4, .int (0)), (0, .ref (x)), (1, .int (v)), (2, .int (te)), (3, .int (pe))]) hx hb dX11_rivals_14 hl (by decide) rfl (fun ls hl => ?_)
    refine lv_iconst (v := 0) hx hb dX11_rivals_16 (by decide) ?_
    refine lv_istore (lv' := [(5, .int (0)), (4, .int (0)), (0, .ref (x)), (1, .int (v)), (2, .int (te)), (3, .int (pe))]) hx hb dX11_rivals_17 hl (by decide) rfl (fun ls hl => ?_)
    have hl10 : (0 : Int32).toInt = 0 := by decide
    have hl11 : (0 : Int32).toInt = 0 := by decide
    suffices lp19 : ∀ (k9 : Nat) (V9 : hp_V) (H9 : Heap) (locs9 : List Loc) (ls : Array Slot) (no : Int32) (i : Int32), (100 - i.toInt).toNat = k9 → hp_Z D cs B s V9 H9 n locs9 → hq_P cs G (fun _ => false) V V9 → 0 ≤ i.toInt → i.toInt ≤ 60 → lv_has ls 6 [(5, .int (i)), (4, .int (no)), (0, .ref (x)), (1, .int (v)), (2, .int (te)), (3, .int (pe))] → W p l e ({ frames := 3, cells := 0, slots := 0, locals := 66 }) s m ([.ref (x), .int (v), .int (te), .int (pe)] : List Value).toArray below meth c H9 locs9 0 0 (MQ below (hp_QI D cs B (fun r V' n' => n = n' ∧ hq_P cs G (fun _ => false) V V' ∧ (V' x = some (.inr (11, [.ref (c_tp), .ref (c_pa), .ref (c_mk), .ref (c_sv), .ref (c_ex), .ref (c_lr), .ref (c_fo), .int (c_fs), .ref (c_to), .ref (c_sp)]))) ∧ True)) ([.ref (x), .int (v), .int (te), .int (pe)] : List Value).toArray s 0 0 (hp_F B)) (F0 m 19 ls []) from lp19 _ _ _ _ ls (0) (0) rfl hZ hP (by omega) (by omega) (lv_sub hl [0, 1, 2, 3, 4, 5] rfl)
    intro k9
    induction k9 using Nat.strongRecOn with
    | _ k9 ih19 =>
      intro V9 H9 locs9 ls no i  hk19 hZ hP  hv12 hv13 hl
      have hb_no := hq_rng no
      have hb_i := hq_rng i
      have hP_19 := hP
      refine lv_iload hx hb dX11_rivals_19 (lv_at hl 0 rfl) ?_
      refine lv_aload_n hx hb dX11_rivals_21 rfl (lv_at hl 2 rfl) ?_
      have fx14 : V9 (x) = some (.inr (11, [.ref (c_tp), .ref (c_pa), .ref (c_mk), .ref (c_sv), .ref (c_ex), .ref (c_lr), .ref (c_fo), .int (c_fs), .ref (c_to), .ref (c_sp)])) := (hP_19.2 (x) _ h_x rfl).trans (ho_x)
      refine hp_get (v := .ref (c_to)) hx hb hts hown hZ fx14 fl_X11_64 rfl dX11_rivals_22 ?_
      obtain ⟨u16, u17, u18, u19, z20, z21, z22, eV15, hu23, hu24, hu25, hu26, ⟨h27, h28⟩, ⟨h29, h30⟩, h31, h32⟩ := hq_o6 hP.1 h_c_to
      refine hp_get (v := .int (z22)) hx hb hts hown hZ eV15 fl_X11_87 rfl dX11_rivals_25 ?_
      refine lv_icmp_ge (tgt := 72) hx hb dX11_rivals_28 (by decide) (fun c33 => ?_) (fun c33 => ?_)
      · have c33 : (z22).toInt ≤ (i).toInt := hq_lei.mp c33
        refine lv_iload hx hb dX11_rivals_72 (lv_at hl 1 rfl) ?_
        exact hp_iret hx hb hr hlocks hZ ⟨rfl, hP, fx14, trivial⟩ dX11_rivals_74
      · have c33 : ¬ (z22).toInt ≤ (i).toInt := fun h9 => c33 (hq_lei.mpr h9)
        refine lv_aload_n hx hb dX11_rivals_31 rfl (lv_at hl 2 rfl) ?_
        refine hp_get (v := .ref (c_to)) hx hb hts hown hZ fx14 fl_X11_64 rfl dX11_rivals_32 ?_
        refine hp_get (v := .ref (u19)) hx hb hts hown hZ eV15 fl_X11_110 rfl dX11_rivals_35 ?_
        refine lv_iload hx hb dX11_rivals_38 (lv_at hl 0 rfl) ?_
        obtain ⟨hN36, g35, eV34, hf37, _⟩ := hq_o4 hP.1 hu26
        obtain ⟨u38, hx39, hu40⟩ := hf37 (i : Int32).toNatClampNeg (hq_ix (by omega) (by omega))
        have hu40 : G u38 = some (5, 1, 0, 0) := hu40
        refine hp_aald (v := .ref (u38)) hx hb hZ 6 eV34 rfl (hq_in (by omega) (by omega)) (by rw [hx39]; rfl) dX11_rivals_40 ?_
        obtain ⟨z42, z43, z44, z45, z46, z47, z48, z49, u50, u51, eV41, hu52, hu53, h54, h55⟩ := hq_o5 hP.1 hu40
        refine hp_get (v := .int (z42)) hx hb hts hown hZ eV41 fl_X11_114 rfl dX11_rivals_41 ?_
        refine lv_iconst (v := 1) hx hb dX11_rivals_44 (by decide) ?_
        refine lv_icmp_ne (tgt := 66) hx hb dX11_rivals_45 (by decide) (fun c56 => ?_) (fun c56 => ?_)
        · have c56 : ¬ (z42).toInt = (1 : Int) := fun h9 => c56 (hq_eqi.mpr h9)
          obtain ⟨y57, ey58⟩ : ∃ y : Int32, y = i + (1) := ⟨_, rfl⟩
          obtain ⟨k59, hk60, b61, b62⟩ := hq_add (i) (1)
          rw [← ey58] at hk60 b61 b62
          have hk60 : (y57).toInt = (i).toInt + (1) + k59 * 4294967296 := hk60
          refine lv_iinc (v := y57) (lv' := [(5, .int (y57)), (4, .int (no)), (0, .ref (x)), (1, .int (v)), (2, .int (te)), (3, .int (pe))]) hx hb dX11_rivals_66 hl (k := 0) rfl (by rw [ey58]; rfl) (by decide) rfl (fun ls hl => ?_)
          refine lv_goto (tgt := 19) hx hb dX11_rivals_69 (by decide) ?_
          exact ih19 _ (by omega) _ _ _ ls (no) (y57) rfl hZ hP (by omega) (by omega) (lv_sub hl [0, 1, 2, 3, 4, 5] rfl)
        · have c56 : (z42).toInt = (1 : Int) := hq_eqi.mp c56
          refine lv_aload_n hx hb dX11_rivals_48 rfl (lv_at hl 2 rfl) ?_
          refine hp_get (v := .ref (c_to)) hx hb hts hown hZ fx14 fl_X11_64 rfl dX11_rivals_49 ?_
          refine lv_iload hx hb dX11_rivals_52 (lv_at hl 0 rfl) ?_
          refine lv_iload_n hx hb dX11_rivals_54 rfl (lv_at hl 3 rfl) ?_
          refine lv_iload_n hx hb dX11_rivals_55 rfl (lv_at hl 4 rfl) ?_
          refine lv_iload_n hx hb dX11_rivals_56 rfl (lv_at hl 5 rfl) ?_
          refine hp_calli (hp_runV (As := [.int (i), .int (v), .int (te), .int (pe)]) (rest := []) hx hb hml hown hts (t_X0_fits l D cs B G  V9 n hP.1 _ (c_to) h_c_to (i) (v) (te) (pe) (by omega) (by omega) (by omega) (by omega)) hZ eV15 cv_X11_168 rfl rfl ⟨Nat.le_of_ble_eq_true rfl, Nat.le_of_ble_eq_true rfl⟩ rfl hl.1 rfl (Nat.le_of_ble_eq_true rfl) dX11_rivals_57 ⟨(Nat.le_of_ble_eq_true rfl), (Nat.le_of_ble_eq_true rfl)⟩) hZ (fun r66 V63 n64 _ _ hw65 hZ => ?_)
          obtain ⟨rfl, hq67, hr68⟩ := hw65
          have hP := hP.trans hq67 (fun _ _ => rfl)
          have b69 := hq_rng r66
          refine lv_if_eq (tgt := 66) hx hb dX11_rivals_60 (by decide) (fun c70 => ?_) (fun c70 => ?_)
          · have c70 : (r66).toInt = (0 : Int) := hq_eqi.mp c70
            obtain ⟨y71, ey72⟩ : ∃ y : Int32, y = i + (1) := ⟨_, rfl⟩
            obtain ⟨k73, hk74, b75, b76⟩ := hq_add (i) (1)
            rw [← ey72] at hk74 b75 b76
            have hk74 : (y71).toInt = (i).toInt + (1) + k73 * 4294967296 := hk74
            refine lv_iinc (v := y71) (lv' := [(5, .int (y71)), (4, .int (no)), (0, .ref (x)), (1, .int (v)), (2, .int (te)), (3, .int (pe))]) hx hb dX11_rivals_66 hl (k := 0) rfl (by rw [ey72]; rfl) (by decide) rfl (fun ls hl => ?_)
            refine lv_goto (tgt := 19) hx hb dX11_rivals_69 (by decide) ?_
            exact ih19 _ (by omega) _ _ _ ls (no) (y71) rfl hZ hP (by omega) (by omega) (lv_sub hl [0, 1, 2, 3, 4, 5] rfl)
          · have c70 : ¬ (r66).toInt = (0 : Int) := fun h9 => c70 (hq_eqi.mpr h9)
            obtain ⟨y77, ey78⟩ : ∃ y : Int32, y = no + (1) := ⟨_, rfl⟩
            obtain ⟨k79, hk80, b81, b82⟩ := hq_add (no) (1)
            rw [← ey78] at hk80 b81 b82
            have hk80 : (y77).toInt = (no).toInt + (1) + k79 * 4294967296 := hk80
            refine lv_iinc (v := y77) (lv' := [(4, .int (y77)), (5, .int (i)), (0, .ref (x)), (1, .int (v)), (2, .int (te)), (3, .int (pe))]) hx hb dX11_rivals_63 hl (k := 1) rfl (by rw [ey78]; rfl) (by decide) rfl (fun ls hl => ?_)
            obtain ⟨y83, ey84⟩ : ∃ y : Int32, y = i + (1) := ⟨_, rfl⟩
            obtain ⟨k85, hk86, b87, b88⟩ := hq_add (i) (1)
            rw [← ey84] at hk86 b87 b88
            have hk86 : (y83).toInt = (i).toInt + (1) + k85 * 4294967296 := hk86
            refine lv_iinc (v := y83) (lv' := [(5, .int (y83)), (4, .int (y77)), (0, .ref (x)), (1, .int (v)), (2, .int (te)), (3, .int (pe))]) hx hb dX11_rivals_66 hl (k := 1) rfl (by rw [ey84]; rfl) (by decide) rfl (fun ls hl => ?_)
            refine lv_goto (tgt := 19) hx hb dX11_rivals_69 (by decide) ?_
            exact ih19 _ (by omega) _ _ _ ls (y77) (y83) rfl hZ hP (by omega) (by omega) (lv_sub hl [0, 1, 2, 3, 4, 5] rfl)
  · have c9 : (r4).toInt = (0 : Int) := hq_eqi.mp c9
    refine lv_bipush (v := -2) hx hb dX11_rivals_10 (by decide) ?_
    exact hp_iret hx hb hr hlocks hZ ⟨rfl, hP, ho7, trivial⟩ dX11_rivals_12

set_option maxHeartbeats 4000000 in
set_option maxRecDepth 100000 in
theorem t_X11_forms_1 (l : Launch) (D : va_G) (cs : Nat → ClassId) (B : Nat) (G : hq_G) (V : hp_V) (n : Nat) (hI : hq_I cs G V) (x : Nat) (h_x : G x = some (15, 0, 0, 0)) (v : Int32) (te : Int32) (pe : Int32) {c_tp c_pa c_mk c_sv c_ex c_lr c_fo c_to c_sp : Nat} {c_fs : Int32} (ho_x : V x = some (.inr (11, [.ref (c_tp), .ref (c_pa), .ref (c_mk), .ref (c_sv), .ref (c_ex), .ref (c_lr), .ref (c_fo), .int (c_fs), .ref (c_to), .ref (c_sp)]))) (h_c_tp : G c_tp = some (0, 4000, 0, 0)) (h_c_pa : G c_pa = some (10, 0, 0, 0)) (h_c_mk : G c_mk = some (11, 0, 0, 0)) (h_c_sv : G c_sv = some (12, 0, 0, 0)) (h_c_ex : G c_ex = some (14, 0, 0, 0)) (h_c_lr : G c_lr = some (4, 5, 8, 0)) (h_c_fo : G c_fo = some (2, 0, 60, 0)) (h_c_to : G c_to = some (6, 1, 0, 0)) (h_c_sp : G c_sp = some (6, 0, 0, 0)) (hi_x0 : 0 ≤ c_fs.toInt ∧ c_fs.toInt ≤ 60) (hJ : hq_J cs V c_to) : hp_M l yX11_forms cX11_forms 4 (some .int) ({ frames := 7, cells := 0, slots := 0, locals := 177 }) D cs B V n [.ref (x), .int (v), .int (te), .int (pe)] (hp_QI D cs B (fun r V' n' => n = n' ∧ hq_P cs G (fun g => g.1 == 5 || g.1 == 6 || g.1 == 7) V V' ∧ (V' x = some (.inr (11, [.ref (c_tp), .ref (c_pa), .ref (c_mk), .ref (c_sv), .ref (c_ex), .ref (c_lr), .ref (c_fo), .int (c_fs), .ref (c_to), .ref (c_sp)]))) ∧ True)) 0 0 := by
  refine hp_walk (R0 := RX11) (by decide) rfl ?_ (Nat.le_of_ble_eq_true rfl)
  intro p e s m below meth c ls hx hb hr hts hown hlocks hin hml hZ hl
  have hP : hq_P cs G (fun g => g.1 == 5 || g.1 == 6 || g.1 == 7) V V := hq_P.rf hI
  have hl : lv_has ls 4 [(0, .ref (x)), (1, .int (v)), (2, .int (te)), (3, .int (pe))] := hl
  have hb_v := hq_rng v
  have hb_te := hq_rng te
  have hb_pe := hq_rng pe
  have hb_c_fs := hq_rng c_fs
  refine lv_aload_n hx hb dX11_forms_0 rfl (lv_at hl 0 rfl) ?_
  refine lv_iload_n hx hb dX11_forms_1 rfl (lv_at hl 1 rfl) ?_
  refine lv_iload_n hx hb dX11_forms_2 rfl (lv_at hl 2 rfl) ?_
  refine lv_iload_n hx hb dX11_forms_3 rfl (lv_at hl 3 rfl) ?_
  refine hp_calli (hp_runV (As := [.int (v), .int (te), .int (pe)]) (rest := []) hx hb hml hown hts (t_X11_isPlace_1 l D cs B G  V n hP.1  (x) h_x (v) (te) (pe) ho_x h_c_tp h_c_pa h_c_mk h_c_sv h_c_ex h_c_lr h_c_fo h_c_to h_c_sp (by omega) ) hZ ho_x cv_X11_141 rfl rfl ⟨Nat.le_of_ble_eq_true rfl, Nat.le_of_ble_eq_true rfl⟩ rfl hl.1 rfl (Nat.le_of_ble_eq_true rfl) dX11_forms_4 ⟨(Nat.le_of_ble_eq_true rfl), (Nat.le_of_ble_eq_true rfl)⟩) hZ (fun r4 V1 n2 _ _ hw3 hZ => ?_)
  obtain ⟨rfl, hq5, ho7, hr6⟩ := hw3
  have hP := hP.trans hq5 (fun _ _ => rfl)
  have b8 := hq_rng r4
  refine lv_if_ne (tgt := 13) hx hb dX11_forms_7 (by decide) (fun c9 => ?_) (fun c9 => ?_)
  · have c9 : ¬ (r4).toInt = (0 : Int) := fun h9 => c9 (hq_eqi.mpr h9)
    refine lv_aload_n hx hb dX11_forms_13 rfl (lv_at hl 0 rfl) ?_
    refine hp_get (v := .ref (c_mk)) hx hb hts hown hZ ho7 fl_X11_28 rfl dX11_forms_14 ?_
    refine lv_aload_n hx hb dX11_forms_17 rfl (lv_at hl 0 rfl) ?_
    refine hp_get (v := .ref (c_to)) hx hb hts hown hZ ho7 fl_X11_64 rfl dX11_forms_18 ?_
    refine lv_iload_n hx hb dX11_forms_21 rfl (lv_at hl 1 rfl) ?_
    refine lv_iload_n hx hb dX11_forms_22 rfl (lv_at hl 2 rfl) ?_
    refine lv_iload_n hx hb dX11_forms_23 rfl (lv_at hl 3 rfl) ?_
    obtain ⟨u17, u18, u19, u20, z21, eV16, hu22, hu23, hu24, hu25, h26, h27⟩ := hq_o11 hP.1 h_c_mk
    refine hp_callv (hp_runV (As := [.ref (c_to), .int (v), .int (te), .int (pe)]) (rest := []) hx hb hml hown hts (t_X6_makeAt l D cs B G  V1 n hP.1 _ (c_mk) h_c_mk (c_to) h_c_to (v) (te) (pe) (by omega) (by omega) (hJ.keep hP.1 h_c_to (hq_kp hP (by intro g h; simp [hq_lg] at h ⊢ <;> omega)))) hZ eV16 cv_X11_145 rfl rfl ⟨Nat.le_of_ble_eq_true rfl, Nat.le_of_ble_eq_true rfl⟩ rfl hl.1 rfl (Nat.le_of_ble_eq_true rfl) dX11_forms_24 ⟨(Nat.le_of_ble_eq_true rfl), (Nat.le_of_ble_eq_true rfl)⟩) hZ (fun V10 n11 _ _ hw12 hZ => ?_)
    obtain ⟨rfl, hq14⟩ := hw12
    have hP := hP.trans hq14 (by intro g h; simp_all)
    refine lv_aload_n hx hb dX11_forms_27 rfl (lv_at hl 0 rfl) ?_
    have fx28 : V10 (x) = some (.inr (11, [.ref (c_tp), .ref (c_pa), .ref (c_mk), .ref (c_sv), .ref (c_ex), .ref (c_lr), .ref (c_fo), .int (c_fs), .ref (c_to), .ref (c_sp)])) := (hq14.2 (x) _ h_x rfl).trans (ho7)
    refine hp_get (v := .ref (c_mk)) hx hb hts hown hZ fx28 fl_X11_28 rfl dX11_forms_28 ?_
    obtain ⟨u30, u31, u32, u33, z34, eV29, hu35, hu36, hu37, hu38, h39, h40⟩ := hq_o11 hP.1 h_c_mk
    refine hp_get (v := .ref (u30)) hx hb hts hown hZ eV29 fl_X11_149 rfl dX11_forms_31 ?_
    obtain ⟨u42, z43, eV41, hu44, h45, h46, h47⟩ := hq_o8 hP.1 hu35
    refine hp_get (v := .int (z43)) hx hb hts hown hZ eV41 fl_X11_153 rfl dX11_forms_34 ?_
    exact hp_iret hx hb hr hlocks hZ ⟨rfl, hP, fx28, trivial⟩ dX11_forms_37
  · have c9 : (r4).toInt = (0 : Int) := hq_eqi.mp c9
    refine lv_bipush (v := -2) hx hb dX11_forms_10 (by decide) ?_
    exact hp_iret hx hb hr hlocks hZ ⟨rfl, hP, ho7, trivial⟩ dX11_forms_12

set_option maxHeartbeats 4000000 in
set_option maxRecDepth 100000 in
theorem t_X11_formAt_1 (l : Launch) (D : va_G) (cs : Nat → ClassId) (B : Nat) (G : hq_G) (V : hp_V) (n : Nat) (hI : hq_I cs G V) (x : Nat) (h_x : G x = some (15, 0, 0, 0)) (v : Int32) (te : Int32) (pe : Int32) (k : Int32) {c_tp c_pa c_mk c_sv c_ex c_lr c_fo c_to c_sp : Nat} {c_fs : Int32} (ho_x : V x = some (.inr (11, [.ref (c_tp), .ref (c_pa), .ref (c_mk), .ref (c_sv), .ref (c_ex), .ref (c_lr), .ref (c_fo), .int (c_fs), .ref (c_to), .ref (c_sp)]))) (h_c_tp : G c_tp = some (0, 4000, 0, 0)) (h_c_pa : G c_pa = some (10, 0, 0, 0)) (h_c_mk : G c_mk = some (11, 0, 0, 0)) (h_c_sv : G c_sv = some (12, 0, 0, 0)) (h_c_ex : G c_ex = some (14, 0, 0, 0)) (h_c_lr : G c_lr = some (4, 5, 8, 0)) (h_c_fo : G c_fo = some (2, 0, 60, 0)) (h_c_to : G c_to = some (6, 1, 0, 0)) (h_c_sp : G c_sp = some (6, 0, 0, 0)) (hi_x0 : 0 ≤ c_fs.toInt ∧ c_fs.toInt ≤ 60) (hJ : hq_J cs V c_to) : hp_M l yX11_formAt cX11_formAt 5 (some (.object "VerbSchool$Form")) ({ frames := 7, cells := 0, slots := 0, locals := 177 }) D cs B V n [.ref (x), .int (v), .int (te), .int (pe), .int (k)] (hp_QR D cs B (fun r V' n' => n = n' ∧ hq_P cs G (fun g => g.1 == 5 || g.1 == 6 || g.1 == 7) V V' ∧ (V' x = some (.inr (11, [.ref (c_tp), .ref (c_pa), .ref (c_mk), .ref (c_sv), .ref (c_ex), .ref (c_lr), .ref (c_fo), .int (c_fs), .ref (c_to), .ref (c_sp)]))) ∧ (∀ x, r = some x → G x = some (7, 0, 0, 0)))) 0 0 := by
  refine hp_walk (R0 := RX11) (by decide) rfl ?_ (Nat.le_of_ble_eq_true rfl)
  intro p e s m below meth c ls hx hb hr hts hown hlocks hin hml hZ hl
  have hP : hq_P cs G (fun g => g.1 == 5 || g.1 == 6 || g.1 == 7) V V := hq_P.rf hI
  have hl : lv_has ls 5 [(0, .ref (x)), (1, .int (v)), (2, .int (te)), (3, .int (pe)), (4, .int (k))] := hl
  have hb_v := hq_rng v
  have hb_te := hq_rng te
  have hb_pe := hq_rng pe
  have hb_k := hq_rng k
  have hb_c_fs := hq_rng c_fs
  refine lv_aload_n hx hb dX11_formAt_0 rfl (lv_at hl 0 rfl) ?_
  refine lv_iload_n hx hb dX11_formAt_1 rfl (lv_at hl 1 rfl) ?_
  refine lv_iload_n hx hb dX11_formAt_2 rfl (lv_at hl 2 rfl) ?_
  refine lv_iload_n hx hb dX11_formAt_3 rfl (lv_at hl 3 rfl) ?_
  refine hp_calli (hp_runV (As := [.int (v), .int (te), .int (pe)]) (rest := []) hx hb hml hown hts (t_X11_isPlace_1 l D cs B G  V n hP.1  (x) h_x (v) (te) (pe) ho_x h_c_tp h_c_pa h_c_mk h_c_sv h_c_ex h_c_lr h_c_fo h_c_to h_c_sp (by omega) ) hZ ho_x cv_X11_141 rfl rfl ⟨Nat.le_of_ble_eq_true rfl, Nat.le_of_ble_eq_true rfl⟩ rfl hl.1 rfl (Nat.le_of_ble_eq_true rfl) dX11_formAt_4 ⟨(Nat.le_of_ble_eq_true rfl), (Nat.le_of_ble_eq_true rfl)⟩) hZ (fun r4 V1 n2 _ _ hw3 hZ => ?_)
  obtain ⟨rfl, hq5, ho7, hr6⟩ := hw3
  have hP := hP.trans hq5 (fun _ _ => rfl)
  have b8 := hq_rng r4
  refine lv_if_ne (tgt := 12) hx hb dX11_formAt_7 (by decide) (fun c9 => ?_) (fun c9 => ?_)
  · have c9 : ¬ (r4).toInt = (0 : Int) := fun h9 => c9 (hq_eqi.mpr h9)
    refine lv_aload_n hx hb dX11_formAt_12 rfl (lv_at hl 0 rfl) ?_
    refine hp_get (v := .ref (c_mk)) hx hb hts hown hZ ho7 fl_X11_28 rfl dX11_formAt_13 ?_
    refine lv_aload_n hx hb dX11_formAt_16 rfl (lv_at hl 0 rfl) ?_
    refine hp_get (v := .ref (c_to)) hx hb hts hown hZ ho7 fl_X11_64 rfl dX11_formAt_17 ?_
    refine lv_iload_n hx hb dX11_formAt_20 rfl (lv_at hl 1 rfl) ?_
    refine lv_iload_n hx hb dX11_formAt_21 rfl (lv_at hl 2 rfl) ?_
    refine lv_iload_n hx hb dX11_formAt_22 rfl (lv_at hl 3 rfl) ?_
    obtain ⟨u17, u18, u19, u20, z21, eV16, hu22, hu23, hu24, hu25, h26, h27⟩ := hq_o11 hP.1 h_c_mk
    refine hp_callv (hp_runV (As := [.ref (c_to), .int (v), .int (te), .int (pe)]) (rest := []) hx hb hml hown hts (t_X6_makeAt l D cs B G  V1 n hP.1 _ (c_mk) h_c_mk (c_to) h_c_to (v) (te) (pe) (by omega) (by omega) (hJ.keep hP.1 h_c_to (hq_kp hP (by intro g h; simp [hq_lg] at h ⊢ <;> omega)))) hZ eV16 cv_X11_145 rfl rfl ⟨Nat.le_of_ble_eq_true rfl, Nat.le_of_ble_eq_true rfl⟩ rfl hl.1 rfl (Nat.le_of_ble_eq_true rfl) dX11_formAt_23 ⟨(Nat.le_of_ble_eq_true rfl), (Nat.le_of_ble_eq_true rfl)⟩) hZ (fun V10 n11 _ _ hw12 hZ => ?_)
    obtain ⟨rfl, hq14⟩ := hw12
    have hP := hP.trans hq14 (by intro g h; simp_all)
    refine lv_aload_n hx hb dX11_formAt_26 rfl (lv_at hl 0 rfl) ?_
    have fx28 : V10 (x) = some (.inr (11, [.ref (c_tp), .ref (c_pa), .ref (c_mk), .ref (c_sv), .ref (c_ex), .ref (c_lr), .ref (c_fo), .int (c_fs), .ref (c_to), .ref (c_sp)])) := (hq14.2 (x) _ h_x rfl).trans (ho7)
    refine hp_get (v := .ref (c_mk)) hx hb hts hown hZ fx28 fl_X11_28 rfl dX11_formAt_27 ?_
    obtain ⟨u30, u31, u32, u33, z34, eV29, hu35, hu36, hu37, hu38, h39, h40⟩ := hq_o11 hP.1 h_c_mk
    refine hp_get (v := .ref (u30)) hx hb hts hown hZ eV29 fl_X11_149 rfl dX11_formAt_30 ?_
    refine lv_iload hx hb dX11_formAt_33 (lv_at hl 4 rfl) ?_
    obtain ⟨u48, z49, eV47, hu50, h51, h52, h53⟩ := hq_o8 hP.1 hu35
    refine hp_callq (hp_runV (As := [.int (k)]) (rest := []) hx hb hml hown hts (t_X3_get l D cs B G  V10 n hP.1 _ (u30) hu35 (k) ) hZ eV47 cv_X11_230 rfl rfl ⟨Nat.le_of_ble_eq_true rfl, Nat.le_of_ble_eq_true rfl⟩ rfl hl.1 rfl (Nat.le_of_ble_eq_true rfl) dX11_formAt_35 ⟨(Nat.le_of_ble_eq_true rfl), (Nat.le_of_ble_eq_true rfl)⟩) hZ (fun r44 V41 n42 _ _ hw43 hZ => ?_)
    obtain ⟨rfl, hq45, hr46⟩ := hw43
    have hP := hP.trans hq45 (fun _ _ => rfl)
    rcases r44 with _ | u54
    · refine W.eq (g2 := F0 m 38 ls [.null]) rfl ?_
      have fx56 : V41 (x) = some (.inr (11, [.ref (c_tp), .ref (c_pa), .ref (c_mk), .ref (c_sv), .ref (c_ex), .ref (c_lr), .ref (c_fo), .int (c_fs), .ref (c_to), .ref (c_sp)])) := (hq45.2 (x) _ h_x rfl).trans (fx28)
      exact hp_aret (r := none) hx hb hr (Or.inl ⟨_, rfl⟩) hlocks hZ ⟨rfl, hP, fx56, (fun x h => by cases h)⟩ dX11_formAt_38
    · refine W.eq (g2 := F0 m 38 ls [.ref (u54)]) rfl ?_
      have hu55 := hr46 u54 rfl
      have fx57 : V41 (x) = some (.inr (11, [.ref (c_tp), .ref (c_pa), .ref (c_mk), .ref (c_sv), .ref (c_ex), .ref (c_lr), .ref (c_fo), .int (c_fs), .ref (c_to), .ref (c_sp)])) := (hq45.2 (x) _ h_x rfl).trans (fx28)
      exact hp_aret (r := some (u54)) hx hb hr (Or.inl ⟨_, rfl⟩) hlocks hZ ⟨rfl, hP, fx57, (fun x h => by cases h; exact hu55)⟩ dX11_formAt_38
  · have c9 : (r4).toInt = (0 : Int) := hq_eqi.mp c9
    refine lv_null hx hb dX11_formAt_10 ?_
    exact hp_aret (r := none) hx hb hr (Or.inl ⟨_, rfl⟩) hlocks hZ ⟨rfl, hP, ho7, (fun x h => by cases h)⟩ dX11_formAt_11

set_option maxHeartbeats 4000000 in
set_option maxRecDepth 100000 in
theorem t_X11_form_1 (l : Launch) (D : va_G) (cs : Nat → ClassId) (B : Nat) (G : hq_G) (V : hp_V) (n : Nat) (hI : hq_I cs G V) (x : Nat) (h_x : G x = some (15, 0, 0, 0)) (v : Int32) (te : Int32) (pe : Int32) (k : Int32) (k1 : Int32) {c_tp c_pa c_mk c_sv c_ex c_lr c_fo c_to c_sp : Nat} {c_fs : Int32} (ho_x : V x = some (.inr (11, [.ref (c_tp), .ref (c_pa), .ref (c_mk), .ref (c_sv), .ref (c_ex), .ref (c_lr), .ref (c_fo), .int (c_fs), .ref (c_to), .ref (c_sp)]))) (h_c_tp : G c_tp = some (0, 4000, 0, 0)) (h_c_pa : G c_pa = some (10, 0, 0, 0)) (h_c_mk : G c_mk = some (11, 0, 0, 0)) (h_c_sv : G c_sv = some (12, 0, 0, 0)) (h_c_ex : G c_ex = some (14, 0, 0, 0)) (h_c_lr : G c_lr = some (4, 5, 8, 0)) (h_c_fo : G c_fo = some (2, 0, 60, 0)) (h_c_to : G c_to = some (6, 1, 0, 0)) (h_c_sp : G c_sp = some (6, 0, 0, 0)) (hi_x0 : 0 ≤ c_fs.toInt ∧ c_fs.toInt ≤ 60) (hJ : hq_J cs V c_to) : hp_M l yX11_form cX11_form 7 (some .int) ({ frames := 8, cells := 0, slots := 0, locals := 201 }) D cs B V n [.ref (x), .int (v), .int (te), .int (pe), .int (k), .int (k1)] (hp_QI D cs B (fun r V' n' => n = n' ∧ hq_P cs G (fun g => g.1 == 5 || g.1 == 6 || g.1 == 7) V V' ∧ (V' x = some (.inr (11, [.ref (c_tp), .ref (c_pa), .ref (c_mk), .ref (c_sv), .ref (c_ex), .ref (c_lr), .ref (c_fo), .int (c_fs), .ref (c_to), .ref (c_sp)]))) ∧ True)) 0 0 := by
  refine hp_walk (R0 := RX11) (by decide) rfl ?_ (Nat.le_of_ble_eq_true rfl)
  intro p e s m below meth c ls hx hb hr hts hown hlocks hin hml hZ hl
  have hP : hq_P cs G (fun g => g.1 == 5 || g.1 == 6 || g.1 == 7) V V := hq_P.rf hI
  have hl : lv_has ls 7 [(0, .ref (x)), (1, .int (v)), (2, .int (te)), (3, .int (pe)), (4, .int (k)), (5, .int (k1))] := hl
  have hb_v := hq_rng v
  have hb_te := hq_rng te
  have hb_pe := hq_rng pe
  have hb_k := hq_rng k
  have hb_k1 := hq_rng k1
  have hb_c_fs := hq_rng c_fs
  refine lv_aload_n hx hb dX11_form_0 rfl (lv_at hl 0 rfl) ?_
  refine lv_iload_n hx hb dX11_form_1 rfl (lv_at hl 1 rfl) ?_
  refine lv_iload_n hx hb dX11_form_2 rfl (lv_at hl 2 rfl) ?_
  refine lv_iload_n hx hb dX11_form_3 rfl (lv_at hl 3 rfl) ?_
  refine lv_iload hx hb dX11_form_4 (lv_at hl 4 rfl) ?_
  refine hp_callq (hp_runV (As := [.int (v), .int (te), .int (pe), .int (k)]) (rest := []) hx hb hml hown hts (t_X11_formAt_1 l D cs B G  V n hP.1  (x) h_x (v) (te) (pe) (k) ho_x h_c_tp h_c_pa h_c_mk h_c_sv h_c_ex h_c_lr h_c_fo h_c_to h_c_sp (by omega) (hJ.keep hP.1 h_c_to (hq_kp hP (by intro g h; simp [hq_lg] at h ⊢ <;> omega)))) hZ ho_x cv_X11_156 rfl rfl ⟨Nat.le_of_ble_eq_true rfl, Nat.le_of_ble_eq_true rfl⟩ rfl hl.1 rfl (Nat.le_of_ble_eq_true rfl) dX11_form_6 ⟨(Nat.le_of_ble_eq_true rfl), (Nat.le_of_ble_eq_true rfl)⟩) hZ (fun r4 V1 n2 _ _ hw3 hZ => ?_)
  obtain ⟨rfl, hq5, ho7, hr6⟩ := hw3
  have hP := hP.trans hq5 (by intro g h; simp_all)
  rcases r4 with _ | u8
  · refine W.eq (g2 := F0 m 9 ls [.null]) rfl ?_
    refine lv_astoreN (lv' := [(6, .null), (0, .ref (x)), (1, .int (v)), (2, .int (te)), (3, .int (pe)), (4, .int (k)), (5, .int (k1))]) hx hb dX11_form_9 hl (by decide) rfl (fun ls hl => ?_)
    refine lv_aloadN hx hb dX11_form_11 (lv_at hl 0 rfl) ?_
    refine lv_ifnonnullN hx hb dX11_form_13 ?_
    refine lv_iconst (v := -1) hx hb dX11_form_16 (by decide) ?_
    refine lv_goto (tgt := 30) hx hb dX11_form_17 (by decide) ?_
    exact hp_iret hx hb hr hlocks hZ ⟨rfl, hP, ho7, trivial⟩ dX11_form_30
  · refine W.eq (g2 := F0 m 9 ls [.ref (u8)]) rfl ?_
    have hu9 := hr6 u8 rfl
    refine lv_astore (lv' := [(6, .ref (u8)), (0, .ref (x)), (1, .int (v)), (2, .int (te)), (3, .int (pe)), (4, .int (k)), (5, .int (k1))]) hx hb dX11_form_9 hl (by decide) rfl (fun ls hl => ?_)
    refine lv_aload hx hb dX11_form_11 (lv_at hl 0 rfl) ?_
    refine lv_ifnonnull (tgt := 20) hx hb dX11_form_13 (by decide) ?_
    refine lv_aload hx hb dX11_form_20 (lv_at hl 0 rfl) ?_
    obtain ⟨u11, u12, z13, eV10, hu14, hu15, h16, h17⟩ := hq_o7 hP.1 hu9
    refine hp_get (v := .ref (u11)) hx hb hts hown hZ eV10 fl_X11_160 rfl dX11_form_22 ?_
    refine lv_iload hx hb dX11_form_25 (lv_at hl 6 rfl) ?_
    obtain ⟨u25, z26, eV24, hu27, h28, h29, h30⟩ := hq_o0 hP.1 hu14
    refine hp_calli (hp_runV (As := [.int (k1)]) (rest := []) hx hb hml hown hts (t_X9_at l D cs B G  V1 n hP.1 _ (u11) hu14 (k1) ) hZ eV24 cv_X11_106 rfl rfl ⟨Nat.le_of_ble_eq_true rfl, Nat.le_of_ble_eq_true rfl⟩ rfl hl.1 rfl (Nat.le_of_ble_eq_true rfl) dX11_form_27 ⟨(Nat.le_of_ble_eq_true rfl), (Nat.le_of_ble_eq_true rfl)⟩) hZ (fun r21 V18 n19 _ _ hw20 hZ => ?_)
    obtain ⟨rfl, hq22, hr23⟩ := hw20
    have hP := hP.trans hq22 (fun _ _ => rfl)
    have b31 := hq_rng r21
    have fx32 : V18 (x) = some (.inr (11, [.ref (c_tp), .ref (c_pa), .ref (c_mk), .ref (c_sv), .ref (c_ex), .ref (c_lr), .ref (c_fo), .int (c_fs), .ref (c_to), .ref (c_sp)])) := (hq22.2 (x) _ h_x rfl).trans (ho7)
    exact hp_iret hx hb hr hlocks hZ ⟨rfl, hP, fx32, trivial⟩ dX11_form_30

set_option maxHeartbeats 4000000 in
set_option maxRecDepth 100000 in
theorem t_X11_row_1 (l : Launch) (D : va_G) (cs : Nat → ClassId) (B : Nat) (G : hq_G) (V : hp_V) (n : Nat) (hI : hq_I cs G V) (x : Nat) (h_x : G x = some (15, 0, 0, 0)) (v : Int32) (te : Int32) (pe : Int32) (k : Int32) (k1 : Int32) {c_tp c_pa c_mk c_sv c_ex c_lr c_fo c_to c_sp : Nat} {c_fs : Int32} (ho_x : V x = some (.inr (11, [.ref (c_tp), .ref (c_pa), .ref (c_mk), .ref (c_sv), .ref (c_ex), .ref (c_lr), .ref (c_fo), .int (c_fs), .ref (c_to), .ref (c_sp)]))) (h_c_tp : G c_tp = some (0, 4000, 0, 0)) (h_c_pa : G c_pa = some (10, 0, 0, 0)) (h_c_mk : G c_mk = some (11, 0, 0, 0)) (h_c_sv : G c_sv = some (12, 0, 0, 0)) (h_c_ex : G c_ex = some (14, 0, 0, 0)) (h_c_lr : G c_lr = some (4, 5, 8, 0)) (h_c_fo : G c_fo = some (2, 0, 60, 0)) (h_c_to : G c_to = some (6, 1, 0, 0)) (h_c_sp : G c_sp = some (6, 0, 0, 0)) (hi_x0 : 0 ≤ c_fs.toInt ∧ c_fs.toInt ≤ 60) (hJ : hq_J cs V c_to) : hp_M l yX11_row cX11_row 7 (some .int) ({ frames := 8, cells := 0, slots := 0, locals := 201 }) D cs B V n [.ref (x), .int (v), .int (te), .int (pe), .int (k), .int (k1)] (hp_QI D cs B (fun r V' n' => n = n' ∧ hq_P cs G (fun g => g.1 == 5 || g.1 == 6 || g.1 == 7) V V' ∧ (V' x = some (.inr (11, [.ref (c_tp), .ref (c_pa), .ref (c_mk), .ref (c_sv), .ref (c_ex), .ref (c_lr), .ref (c_fo), .int (c_fs), .ref (c_to), .ref (c_sp)]))) ∧ True)) 0 0 := by
  refine hp_walk (R0 := RX11) (by decide) rfl ?_ (Nat.le_of_ble_eq_true rfl)
  intro p e s m below meth c ls hx hb hr hts hown hlocks hin hml hZ hl
  have hP : hq_P cs G (fun g => g.1 == 5 || g.1 == 6 || g.1 == 7) V V := hq_P.rf hI
  have hl : lv_has ls 7 [(0, .ref (x)), (1, .int (v)), (2, .int (te)), (3, .int (pe)), (4, .int (k)), (5, .int (k1))] := hl
  have hb_v := hq_rng v
  have hb_te := hq_rng te
  have hb_pe := hq_rng pe
  have hb_k := hq_rng k
  have hb_k1 := hq_rng k1
  have hb_c_fs := hq_rng c_fs
  refine lv_aload_n hx hb dX11_row_0 rfl (lv_at hl 0 rfl) ?_
  refine lv_iload_n hx hb dX11_row_1 rfl (lv_at hl 1 rfl) ?_
  refine lv_iload_n hx hb dX11_row_2 rfl (lv_at hl 2 rfl) ?_
  refine lv_iload_n hx hb dX11_row_3 rfl (lv_at hl 3 rfl) ?_
  refine lv_iload hx hb dX11_row_4 (lv_at hl 4 rfl) ?_
  refine hp_callq (hp_runV (As := [.int (v), .int (te), .int (pe), .int (k)]) (rest := []) hx hb hml hown hts (t_X11_formAt_1 l D cs B G  V n hP.1  (x) h_x (v) (te) (pe) (k) ho_x h_c_tp h_c_pa h_c_mk h_c_sv h_c_ex h_c_lr h_c_fo h_c_to h_c_sp (by omega) (hJ.keep hP.1 h_c_to (hq_kp hP (by intro g h; simp [hq_lg] at h ⊢ <;> omega)))) hZ ho_x cv_X11_156 rfl rfl ⟨Nat.le_of_ble_eq_true rfl, Nat.le_of_ble_eq_true rfl⟩ rfl hl.1 rfl (Nat.le_of_ble_eq_true rfl) dX11_row_6 ⟨(Nat.le_of_ble_eq_true rfl), (Nat.le_of_ble_eq_true rfl)⟩) hZ (fun r4 V1 n2 _ _ hw3 hZ => ?_)
  obtain ⟨rfl, hq5, ho7, hr6⟩ := hw3
  have hP := hP.trans hq5 (by intro g h; simp_all)
  rcases r4 with _ | u8
  · refine W.eq (g2 := F0 m 9 ls [.null]) rfl ?_
    refine lv_astoreN (lv' := [(6, .null), (0, .ref (x)), (1, .int (v)), (2, .int (te)), (3, .int (pe)), (4, .int (k)), (5, .int (k1))]) hx hb dX11_row_9 hl (by decide) rfl (fun ls hl => ?_)
    refine lv_aloadN hx hb dX11_row_11 (lv_at hl 0 rfl) ?_
    refine lv_ifnonnullN hx hb dX11_row_13 ?_
    refine lv_iconst (v := -1) hx hb dX11_row_16 (by decide) ?_
    refine lv_goto (tgt := 27) hx hb dX11_row_17 (by decide) ?_
    exact hp_iret hx hb hr hlocks hZ ⟨rfl, hP, ho7, trivial⟩ dX11_row_27
  · refine W.eq (g2 := F0 m 9 ls [.ref (u8)]) rfl ?_
    have hu9 := hr6 u8 rfl
    refine lv_astore (lv' := [(6, .ref (u8)), (0, .ref (x)), (1, .int (v)), (2, .int (te)), (3, .int (pe)), (4, .int (k)), (5, .int (k1))]) hx hb dX11_row_9 hl (by decide) rfl (fun ls hl => ?_)
    refine lv_aload hx hb dX11_row_11 (lv_at hl 0 rfl) ?_
    refine lv_ifnonnull (tgt := 20) hx hb dX11_row_13 (by decide) ?_
    refine lv_aload hx hb dX11_row_20 (lv_at hl 0 rfl) ?_
    refine lv_iload hx hb dX11_row_22 (lv_at hl 6 rfl) ?_
    obtain ⟨u17, u18, z19, eV16, hu20, hu21, h22, h23⟩ := hq_o7 hP.1 hu9
    refine hp_calli (hp_runV (As := [.int (k1)]) (rest := []) hx hb hml hown hts (t_X2_lineAt l D cs B G  V1 n hP.1  (u8) hu9 (k1) ) hZ eV16 cv_X11_165 rfl rfl ⟨Nat.le_of_ble_eq_true rfl, Nat.le_of_ble_eq_true rfl⟩ rfl hl.1 rfl (Nat.le_of_ble_eq_true rfl) dX11_row_24 ⟨(Nat.le_of_ble_eq_true rfl), (Nat.le_of_ble_eq_true rfl)⟩) hZ (fun r13 V10 n11 _ _ hw12 hZ => ?_)
    obtain ⟨rfl, hq14, hr15⟩ := hw12
    have hP := hP.trans hq14 (fun _ _ => rfl)
    have b24 := hq_rng r13
    have fx25 : V10 (x) = some (.inr (11, [.ref (c_tp), .ref (c_pa), .ref (c_mk), .ref (c_sv), .ref (c_ex), .ref (c_lr), .ref (c_fo), .int (c_fs), .ref (c_to), .ref (c_sp)])) := (hq14.2 (x) _ h_x rfl).trans (ho7)
    exact hp_iret hx hb hr hlocks hZ ⟨rfl, hP, fx25, trivial⟩ dX11_row_27

set_option maxHeartbeats 4000000 in
set_option maxRecDepth 100000 in
theorem t_X11_unused_1 (l : Launch) (D : va_G) (cs : Nat → ClassId) (B : Nat) (G : hq_G) (V : hp_V) (n : Nat) (hI : hq_I cs G V) (x : Nat) (h_x : G x = some (15, 0, 0, 0)) {c_tp c_pa c_mk c_sv c_ex c_lr c_fo c_to c_sp : Nat} {c_fs : Int32} (ho_x : V x = some (.inr (11, [.ref (c_tp), .ref (c_pa), .ref (c_mk), .ref (c_sv), .ref (c_ex), .ref (c_lr), .ref (c_fo), .int (c_fs), .ref (c_to), .ref (c_sp)]))) (h_c_tp : G c_tp = some (0, 4000, 0, 0)) (h_c_pa : G c_pa = some (10, 0, 0, 0)) (h_c_mk : G c_mk = some (11, 0, 0, 0)) (h_c_sv : G c_sv = some (12, 0, 0, 0)) (h_c_ex : G c_ex = some (14, 0, 0, 0)) (h_c_lr : G c_lr = some (4, 5, 8, 0)) (h_c_fo : G c_fo = some (2, 0, 60, 0)) (h_c_to : G c_to = some (6, 1, 0, 0)) (h_c_sp : G c_sp = some (6, 0, 0, 0)) (hi_x0 : 0 ≤ c_fs.toInt ∧ c_fs.toInt ≤ 60) (hJ : hq_J cs V c_to) : hp_M l yX11_unused cX11_unused 1 (some .int) ({ frames := 8, cells := 0, slots := 0, locals := 200 }) D cs B V n [.ref (x)] (hp_QI D cs B (fun r V' n' => n = n' ∧ hq_P cs G (fun g => g.1 == 0 || g.1 == 5 || g.1 == 6 || g.1 == 7) V V' ∧ (V' x = some (.inr (11, [.ref (c_tp), .ref (c_pa), .ref (c_mk), .ref (c_sv), .ref (c_ex), .ref (c_lr), .ref (c_fo), .int (c_fs), .ref (c_to), .ref (c_sp)]))) ∧ True)) 0 0 := by
  refine hp_walk (R0 := RX11) (by decide) rfl ?_ (Nat.le_of_ble_eq_true rfl)
  intro p e s m below meth c ls hx hb hr hts hown hlocks hin hml hZ hl
  have hP : hq_P cs G (fun g => g.1 == 0 || g.1 == 5 || g.1 == 6 || g.1 == 7) V V := hq_P.rf hI
  have hl : lv_has ls 1 [(0, .ref (x))] := hl
  have hb_c_fs := hq_rng c_fs
  refine lv_aload_n hx hb dX11_unused_0 rfl (lv_at hl 0 rfl) ?_
  refine hp_get (v := .ref (c_sv)) hx hb hts hown hZ ho_x fl_X11_35 rfl dX11_unused_1 ?_
  refine lv_aload_n hx hb dX11_unused_4 rfl (lv_at hl 0 rfl) ?_
  refine hp_get (v := .ref (c_to)) hx hb hts hown hZ ho_x fl_X11_64 rfl dX11_unused_5 ?_
  refine lv_aload_n hx hb dX11_unused_8 rfl (lv_at hl 0 rfl) ?_
  refine hp_get (v := .ref (c_mk)) hx hb hts hown hZ ho_x fl_X11_28 rfl dX11_unused_9 ?_
  obtain ⟨z8, u9, u10, u11, eV7, hu12, hu13, hu14⟩ := hq_o12 hP.1 h_c_sv
  refine hp_callv (hp_runV (As := [.ref (c_to), .ref (c_mk)]) (rest := []) hx hb hml hown hts (t_X8_look l D cs B G  V n hP.1 _ (c_sv) h_c_sv (c_to) h_c_to (c_mk) h_c_mk (hJ.keep hP.1 h_c_to (hq_kp hP (by intro g h; simp [hq_lg] at h ⊢ <;> omega)))) hZ eV7 cv_X11_172 rfl rfl ⟨Nat.le_of_ble_eq_true rfl, Nat.le_of_ble_eq_true rfl⟩ rfl hl.1 rfl (Nat.le_of_ble_eq_true rfl) dX11_unused_12 ⟨(Nat.le_of_ble_eq_true rfl), (Nat.le_of_ble_eq_true rfl)⟩) hZ (fun V1 n2 _ _ hw3 hZ => ?_)
  obtain ⟨rfl, hq5⟩ := hw3
  have hP := hP.trans hq5 (by intro g h; simp_all)
  refine lv_aload_n hx hb dX11_unused_15 rfl (lv_at hl 0 rfl) ?_
  have fx15 : V1 (x) = some (.inr (11, [.ref (c_tp), .ref (c_pa), .ref (c_mk), .ref (c_sv), .ref (c_ex), .ref (c_lr), .ref (c_fo), .int (c_fs), .ref (c_to), .ref (c_sp)])) := (hq5.2 (x) _ h_x rfl).trans (ho_x)
  refine hp_get (v := .ref (c_to)) hx hb hts hown hZ fx15 fl_X11_64 rfl dX11_unused_16 ?_
  obtain ⟨u17, u18, u19, u20, z21, z22, z23, eV16, hu24, hu25, hu26, hu27, ⟨h28, h29⟩, ⟨h30, h31⟩, h32, h33⟩ := hq_o6 hP.1 h_c_to
  refine hp_get (v := .int (z23)) hx hb hts hown hZ eV16 fl_X11_87 rfl dX11_unused_19 ?_
  refine lv_aload_n hx hb dX11_unused_22 rfl (lv_at hl 0 rfl) ?_
  refine hp_get (v := .ref (c_sv)) hx hb hts hown hZ fx15 fl_X11_35 rfl dX11_unused_23 ?_
  refine lv_aload_n hx hb dX11_unused_26 rfl (lv_at hl 0 rfl) ?_
  refine hp_get (v := .ref (c_to)) hx hb hts hown hZ fx15 fl_X11_64 rfl dX11_unused_27 ?_
  refine hp_calli (hp_runV (As := []) (rest := [.ref (c_sv), .int (z23)]) hx hb hml hown hts (t_X0_placeSize l D cs B G  V1 n hP.1 _ (c_to) h_c_to ) hZ eV16 cv_X11_180 rfl rfl ⟨Nat.le_of_ble_eq_true rfl, Nat.le_of_ble_eq_true rfl⟩ rfl hl.1 rfl (Nat.le_of_ble_eq_true rfl) dX11_unused_30 ⟨(Nat.le_of_ble_eq_true rfl), (Nat.le_of_ble_eq_true rfl)⟩) hZ (fun r37 V34 n35 _ _ hw36 hZ => ?_)
  obtain ⟨rfl, hq38, hr39⟩ := hw36
  have hP := hP.trans hq38 (fun _ _ => rfl)
  have b40 := hq_rng r37
  obtain ⟨z48, u49, u50, u51, eV47, hu52, hu53, hu54⟩ := hq_o12 hP.1 h_c_sv
  refine hp_calll (hp_runV (As := [.int (r37)]) (rest := [.int (z23)]) hx hb hml hown hts (t_X8_linesUsed l D cs B G  V34 n hP.1  (c_sv) h_c_sv (r37) (by omega)) hZ eV47 cv_X11_204 rfl rfl ⟨Nat.le_of_ble_eq_true rfl, Nat.le_of_ble_eq_true rfl⟩ rfl hl.1 rfl (Nat.le_of_ble_eq_true rfl) dX11_unused_33 ⟨(Nat.le_of_ble_eq_true rfl), (Nat.le_of_ble_eq_true rfl)⟩) hZ (fun r44 V41 n42 _ _ hw43 hZ => ?_)
  obtain ⟨rfl, hq45, hr46⟩ := hw43
  have hP := hP.trans hq45 (fun _ _ => rfl)
  refine hp_calli (hp_runS (As := [.long (r44)]) (rest := [.int (z23)]) hx hb hml hown hts (t_bitCount l D cs B G  V41 n hP.1  (r44) ) hZ cv_X11_208 rfl rfl ⟨Nat.le_of_ble_eq_true rfl, Nat.le_of_ble_eq_true rfl⟩ rfl hl.1 rfl (Nat.le_of_ble_eq_true rfl) dX11_unused_36 ⟨(Nat.le_of_ble_eq_true rfl), (Nat.le_of_ble_eq_true rfl)⟩) hZ (fun r58 V55 n56 _ _ hw57 hZ => ?_)
  obtain ⟨rfl, hq59, hr60⟩ := hw57
  have hP := hP.trans hq59 (fun _ _ => rfl)
  have b61 := hq_rng r58
  refine lv_isub hx hb dX11_unused_39 ?_
  refine lv_topi (fun y62 ey63 => ?_)
  obtain ⟨k64, hk65, b66, b67⟩ := hq_sub (z23) (r58)
  rw [← ey63] at hk65 b66 b67
  have hk65 : (y62).toInt = (z23).toInt - (r58).toInt + k64 * 4294967296 := hk65
  have fx68 : V55 (x) = some (.inr (11, [.ref (c_tp), .ref (c_pa), .ref (c_mk), .ref (c_sv), .ref (c_ex), .ref (c_lr), .ref (c_fo), .int (c_fs), .ref (c_to), .ref (c_sp)])) := (hq59.2 (x) _ h_x rfl).trans ((hq45.2 (x) _ h_x rfl).trans ((hq38.2 (x) _ h_x rfl).trans (fx15)))
  exact hp_iret hx hb hr hlocks hZ ⟨rfl, hP, fx68, trivial⟩ dX11_unused_40

set_option maxHeartbeats 4000000 in
set_option maxRecDepth 100000 in
theorem t_X11_users_1 (l : Launch) (D : va_G) (cs : Nat → ClassId) (B : Nat) (G : hq_G) (V : hp_V) (n : Nat) (hI : hq_I cs G V) (x : Nat) (h_x : G x = some (15, 0, 0, 0)) (k : Int32) {c_tp c_pa c_mk c_sv c_ex c_lr c_fo c_to c_sp : Nat} {c_fs : Int32} (ho_x : V x = some (.inr (11, [.ref (c_tp), .ref (c_pa), .ref (c_mk), .ref (c_sv), .ref (c_ex), .ref (c_lr), .ref (c_fo), .int (c_fs), .ref (c_to), .ref (c_sp)]))) (h_c_tp : G c_tp = some (0, 4000, 0, 0)) (h_c_pa : G c_pa = some (10, 0, 0, 0)) (h_c_mk : G c_mk = some (11, 0, 0, 0)) (h_c_sv : G c_sv = some (12, 0, 0, 0)) (h_c_ex : G c_ex = some (14, 0, 0, 0)) (h_c_lr : G c_lr = some (4, 5, 8, 0)) (h_c_fo : G c_fo = some (2, 0, 60, 0)) (h_c_to : G c_to = some (6, 1, 0, 0)) (h_c_sp : G c_sp = some (6, 0, 0, 0)) (hi_x0 : 0 ≤ c_fs.toInt ∧ c_fs.toInt ≤ 60) (hJ : hq_J cs V c_to) : hp_M l yX11_users cX11_users 2 (some .int) ({ frames := 8, cells := 0, slots := 0, locals := 200 }) D cs B V n [.ref (x), .int (k)] (hp_QI D cs B (fun r V' n' => n = n' ∧ hq_P cs G (fun g => g.1 == 0 || g.1 == 5 || g.1 == 6 || g.1 == 7) V V' ∧ (V' x = some (.inr (11, [.ref (c_tp), .ref (c_pa), .ref (c_mk), .ref (c_sv), .ref (c_ex), .ref (c_lr), .ref (c_fo), .int (c_fs), .ref (c_to), .ref (c_sp)]))) ∧ True)) 0 0 := by
  refine hp_walk (R0 := RX11) (by decide) rfl ?_ (Nat.le_of_ble_eq_true rfl)
  intro p e s m below meth c ls hx hb hr hts hown hlocks hin hml hZ hl
  have hP : hq_P cs G (fun g => g.1 == 0 || g.1 == 5 || g.1 == 6 || g.1 == 7) V V := hq_P.rf hI
  have hl : lv_has ls 2 [(0, .ref (x)), (1, .int (k))] := hl
  have hb_k := hq_rng k
  have hb_c_fs := hq_rng c_fs
  refine lv_iload_n hx hb dX11_users_0 rfl (lv_at hl 1 rfl) ?_
  refine lv_if_lt (tgt := 15) hx hb dX11_users_1 (by decide) (fun c1 => ?_) (fun c1 => ?_)
  · have c1 : (k).toInt < (0 : Int) := hq_lti.mp c1
    refine lv_bipush (v := -2) hx hb dX11_users_15 (by decide) ?_
    exact hp_iret hx hb hr hlocks hZ ⟨rfl, hP, ho_x, trivial⟩ dX11_users_17
  · have c1 : ¬ (k).toInt < (0 : Int) := fun h9 => c1 (hq_lti.mpr h9)
    refine lv_iload_n hx hb dX11_users_4 rfl (lv_at hl 1 rfl) ?_
    refine lv_aload_n hx hb dX11_users_5 rfl (lv_at hl 0 rfl) ?_
    refine hp_get (v := .ref (c_to)) hx hb hts hown hZ ho_x fl_X11_64 rfl dX11_users_6 ?_
    obtain ⟨u3, u4, u5, u6, z7, z8, z9, eV2, hu10, hu11, hu12, hu13, ⟨h14, h15⟩, ⟨h16, h17⟩, h18, h19⟩ := hq_o6 hP.1 h_c_to
    refine hp_get (v := .int (z9)) hx hb hts hown hZ eV2 fl_X11_87 rfl dX11_users_9 ?_
    refine lv_icmp_lt (tgt := 18) hx hb dX11_users_12 (by decide) (fun c20 => ?_) (fun c20 => ?_)
    · have c20 : (k).toInt < (z9).toInt := hq_lti.mp c20
      refine lv_aload_n hx hb dX11_users_18 rfl (lv_at hl 0 rfl) ?_
      refine hp_get (v := .ref (c_sv)) hx hb hts hown hZ ho_x fl_X11_35 rfl dX11_users_19 ?_
      refine lv_aload_n hx hb dX11_users_22 rfl (lv_at hl 0 rfl) ?_
      refine hp_get (v := .ref (c_to)) hx hb hts hown hZ ho_x fl_X11_64 rfl dX11_users_23 ?_
      refine lv_aload_n hx hb dX11_users_26 rfl (lv_at hl 0 rfl) ?_
      refine hp_get (v := .ref (c_mk)) hx hb hts hown hZ ho_x fl_X11_28 rfl dX11_users_27 ?_
      obtain ⟨z28, u29, u30, u31, eV27, hu32, hu33, hu34⟩ := hq_o12 hP.1 h_c_sv
      refine hp_callv (hp_runV (As := [.ref (c_to), .ref (c_mk)]) (rest := []) hx hb hml hown hts (t_X8_look l D cs B G  V n hP.1 _ (c_sv) h_c_sv (c_to) h_c_to (c_mk) h_c_mk (hJ.keep hP.1 h_c_to (hq_kp hP (by intro g h; simp [hq_lg] at h ⊢ <;> omega)))) hZ eV27 cv_X11_172 rfl rfl ⟨Nat.le_of_ble_eq_true rfl, Nat.le_of_ble_eq_true rfl⟩ rfl hl.1 rfl (Nat.le_of_ble_eq_true rfl) dX11_users_30 ⟨(Nat.le_of_ble_eq_true rfl), (Nat.le_of_ble_eq_true rfl)⟩) hZ (fun V21 n22 _ _ hw23 hZ => ?_)
      obtain ⟨rfl, hq25⟩ := hw23
      have hP := hP.trans hq25 (by intro g h; simp_all)
      refine lv_aload_n hx hb dX11_users_33 rfl (lv_at hl 0 rfl) ?_
      have fx35 : V21 (x) = some (.inr (11, [.ref (c_tp), .ref (c_pa), .ref (c_mk), .ref (c_sv), .ref (c_ex), .ref (c_lr), .ref (c_fo), .int (c_fs), .ref (c_to), .ref (c_sp)])) := (hq25.2 (x) _ h_x rfl).trans (ho_x)
      refine hp_get (v := .ref (c_sv)) hx hb hts hown hZ fx35 fl_X11_35 rfl dX11_users_34 ?_
      refine lv_iload_n hx hb dX11_users_37 rfl (lv_at hl 1 rfl) ?_
      refine lv_aload_n hx hb dX11_users_38 rfl (lv_at hl 0 rfl) ?_
      refine hp_get (v := .ref (c_to)) hx hb hts hown hZ fx35 fl_X11_64 rfl dX11_users_39 ?_
      have fx42 : V21 (c_to) = some (.inr (0, [.ref (u3), .int (z7), .ref (u4), .ref (u5), .int (z8), .ref (u6), .int (z9)])) := (hq25.2 (c_to) _ h_c_to rfl).trans (eV2)
      refine hp_calli (hp_runV (As := []) (rest := [.int (k), .ref (c_sv)]) hx hb hml hown hts (t_X0_placeSize l D cs B G  V21 n hP.1 _ (c_to) h_c_to ) hZ fx42 cv_X11_180 rfl rfl ⟨Nat.le_of_ble_eq_true rfl, Nat.le_of_ble_eq_true rfl⟩ rfl hl.1 rfl (Nat.le_of_ble_eq_true rfl) dX11_users_42 ⟨(Nat.le_of_ble_eq_true rfl), (Nat.le_of_ble_eq_true rfl)⟩) hZ (fun r39 V36 n37 _ _ hw38 hZ => ?_)
      obtain ⟨rfl, hq40, hr41⟩ := hw38
      have hP := hP.trans hq40 (fun _ _ => rfl)
      have b43 := hq_rng r39
      obtain ⟨z51, u52, u53, u54, eV50, hu55, hu56, hu57⟩ := hq_o12 hP.1 h_c_sv
      refine hp_calli (hp_runV (As := [.int (k), .int (r39)]) (rest := []) hx hb hml hown hts (t_X8_placesUsing l D cs B G  V36 n hP.1  (c_sv) h_c_sv (k) (r39) (by omega)) hZ eV50 cv_X11_214 rfl rfl ⟨Nat.le_of_ble_eq_true rfl, Nat.le_of_ble_eq_true rfl⟩ rfl hl.1 rfl (Nat.le_of_ble_eq_true rfl) dX11_users_45 ⟨(Nat.le_of_ble_eq_true rfl), (Nat.le_of_ble_eq_true rfl)⟩) hZ (fun r47 V44 n45 _ _ hw46 hZ => ?_)
      obtain ⟨rfl, hq48, hr49⟩ := hw46
      have hP := hP.trans hq48 (fun _ _ => rfl)
      have b58 := hq_rng r47
      have fx59 : V44 (x) = some (.inr (11, [.ref (c_tp), .ref (c_pa), .ref (c_mk), .ref (c_sv), .ref (c_ex), .ref (c_lr), .ref (c_fo), .int (c_fs), .ref (c_to), .ref (c_sp)])) := (hq48.2 (x) _ h_x rfl).trans ((hq40.2 (x) _ h_x rfl).trans (fx35))
      exact hp_iret hx hb hr hlocks hZ ⟨rfl, hP, fx59, trivial⟩ dX11_users_48
    · have c20 : ¬ (k).toInt < (z9).toInt := fun h9 => c20 (hq_lti.mpr h9)
      refine lv_bipush (v := -2) hx hb dX11_users_15 (by decide) ?_
      exact hp_iret hx hb hr hlocks hZ ⟨rfl, hP, ho_x, trivial⟩ dX11_users_17

set_option maxHeartbeats 4000000 in
set_option maxRecDepth 100000 in
theorem t_X11_tapeIsFormAt_1 (l : Launch) (D : va_G) (cs : Nat → ClassId) (B : Nat) (G : hq_G) (V : hp_V) (n : Nat) (hI : hq_I cs G V) (x : Nat) (h_x : G x = some (15, 0, 0, 0)) (k : Int32) {c_tp c_pa c_mk c_sv c_ex c_lr c_fo c_to c_sp : Nat} {c_fs : Int32} (ho_x : V x = some (.inr (11, [.ref (c_tp), .ref (c_pa), .ref (c_mk), .ref (c_sv), .ref (c_ex), .ref (c_lr), .ref (c_fo), .int (c_fs), .ref (c_to), .ref (c_sp)]))) (h_c_tp : G c_tp = some (0, 4000, 0, 0)) (h_c_pa : G c_pa = some (10, 0, 0, 0)) (h_c_mk : G c_mk = some (11, 0, 0, 0)) (h_c_sv : G c_sv = some (12, 0, 0, 0)) (h_c_ex : G c_ex = some (14, 0, 0, 0)) (h_c_lr : G c_lr = some (4, 5, 8, 0)) (h_c_fo : G c_fo = some (2, 0, 60, 0)) (h_c_to : G c_to = some (6, 1, 0, 0)) (h_c_sp : G c_sp = some (6, 0, 0, 0)) (hi_x0 : 0 ≤ c_fs.toInt ∧ c_fs.toInt ≤ 60) (hJ : hq_J cs V c_to) (hk0 : 0 ≤ k.toInt) (hk1 : k.toInt < 900) : hp_M l yX11_tapeIsFormAt cX11_tapeIsFormAt 2 (some .boolean) ({ frames := 7, cells := 0, slots := 0, locals := 177 }) D cs B V n [.ref (x), .int (k)] (hp_QI D cs B (fun r V' n' => n = n' ∧ hq_P cs G (fun g => g.1 == 5 || g.1 == 6 || g.1 == 7) V V' ∧ (V' x = some (.inr (11, [.ref (c_tp), .ref (c_pa), .ref (c_mk), .ref (c_sv), .ref (c_ex), .ref (c_lr), .ref (c_fo), .int (c_fs), .ref (c_to), .ref (c_sp)]))) ∧ (0 ≤ r.toInt ∧ r.toInt ≤ 1))) 0 0 := by
  refine hp_walk (R0 := RX11) (by decide) rfl ?_ (Nat.le_of_ble_eq_true rfl)
  intro p e s m below meth c ls hx hb hr hts hown hlocks hin hml hZ hl
  have hP : hq_P cs G (fun g => g.1 == 5 || g.1 == 6 || g.1 == 7) V V := hq_P.rf hI
  have hl : lv_has ls 2 [(0, .ref (x)), (1, .int (k))] := hl
  have hb_k := hq_rng k
  have hb_c_fs := hq_rng c_fs
  refine lv_aload_n hx hb dX11_tapeIsFormAt_0 rfl (lv_at hl 0 rfl) ?_
  refine hp_get (v := .ref (c_mk)) hx hb hts hown hZ ho_x fl_X11_28 rfl dX11_tapeIsFormAt_1 ?_
  refine lv_aload_n hx hb dX11_tapeIsFormAt_4 rfl (lv_at hl 0 rfl) ?_
  refine hp_get (v := .ref (c_to)) hx hb hts hown hZ ho_x fl_X11_64 rfl dX11_tapeIsFormAt_5 ?_
  refine lv_iload_n hx hb dX11_tapeIsFormAt_8 rfl (lv_at hl 1 rfl) ?_
  refine hp_calli (hp_runS (As := [.int (k)]) (rest := [.ref (c_to), .ref (c_mk)]) hx hb hml hown hts (t_X11_verbOf l D cs B G  V n hP.1  (k) (by omega) (by omega)) hZ cv_X11_195 rfl rfl ⟨Nat.le_of_ble_eq_true rfl, Nat.le_of_ble_eq_true rfl⟩ rfl hl.1 rfl (Nat.le_of_ble_eq_true rfl) dX11_tapeIsFormAt_9 ⟨(Nat.le_of_ble_eq_true rfl), (Nat.le_of_ble_eq_true rfl)⟩) hZ (fun r4 V1 n2 _ _ hw3 hZ => ?_)
  obtain ⟨rfl, hq5, hr6⟩ := hw3
  have hP := hP.trans hq5 (fun _ _ => rfl)
  have b7 := hq_rng r4
  refine lv_iload_n hx hb dX11_tapeIsFormAt_12 rfl (lv_at hl 1 rfl) ?_
  refine hp_calli (hp_runS (As := [.int (k)]) (rest := [.int (r4), .ref (c_to), .ref (c_mk)]) hx hb hml hown hts (t_X11_tenseOf l D cs B G  V1 n hP.1  (k) (by omega) (by omega)) hZ cv_X11_198 rfl rfl ⟨Nat.le_of_ble_eq_true rfl, Nat.le_of_ble_eq_true rfl⟩ rfl hl.1 rfl (Nat.le_of_ble_eq_true rfl) dX11_tapeIsFormAt_13 ⟨(Nat.le_of_ble_eq_true rfl), (Nat.le_of_ble_eq_true rfl)⟩) hZ (fun r11 V8 n9 _ _ hw10 hZ => ?_)
  obtain ⟨rfl, hq12, hr13⟩ := hw10
  have hP := hP.trans hq12 (fun _ _ => rfl)
  have b14 := hq_rng r11
  refine lv_iload_n hx hb dX11_tapeIsFormAt_16 rfl (lv_at hl 1 rfl) ?_
  refine hp_calli (hp_runS (As := [.int (k)]) (rest := [.int (r11), .int (r4), .ref (c_to), .ref (c_mk)]) hx hb hml hown hts (t_X11_personOf l D cs B G  V8 n hP.1  (k) (by omega) (by omega)) hZ cv_X11_201 rfl rfl ⟨Nat.le_of_ble_eq_true rfl, Nat.le_of_ble_eq_true rfl⟩ rfl hl.1 rfl (Nat.le_of_ble_eq_true rfl) dX11_tapeIsFormAt_17 ⟨(Nat.le_of_ble_eq_true rfl), (Nat.le_of_ble_eq_true rfl)⟩) hZ (fun r18 V15 n16 _ _ hw17 hZ => ?_)
  obtain ⟨rfl, hq19, hr20⟩ := hw17
  have hP := hP.trans hq19 (fun _ _ => rfl)
  have b21 := hq_rng r18
  obtain ⟨u29, u30, u31, u32, z33, eV28, hu34, hu35, hu36, hu37, h38, h39⟩ := hq_o11 hP.1 h_c_mk
  refine hp_callv (hp_runV (As := [.ref (c_to), .int (r4), .int (r11), .int (r18)]) (rest := []) hx hb hml hown hts (t_X6_makeAt l D cs B G  V15 n hP.1 _ (c_mk) h_c_mk (c_to) h_c_to (r4) (r11) (r18) (by omega) (by omega) (hJ.keep hP.1 h_c_to (hq_kp hP (by intro g h; simp [hq_lg] at h ⊢ <;> omega)))) hZ eV28 cv_X11_145 rfl rfl ⟨Nat.le_of_ble_eq_true rfl, Nat.le_of_ble_eq_true rfl⟩ rfl hl.1 rfl (Nat.le_of_ble_eq_true rfl) dX11_tapeIsFormAt_20 ⟨(Nat.le_of_ble_eq_true rfl), (Nat.le_of_ble_eq_true rfl)⟩) hZ (fun V22 n23 _ _ hw24 hZ => ?_)
  obtain ⟨rfl, hq26⟩ := hw24
  have hP := hP.trans hq26 (by intro g h; simp_all)
  refine lv_aload_n hx hb dX11_tapeIsFormAt_23 rfl (lv_at hl 0 rfl) ?_
  have fx40 : V22 (x) = some (.inr (11, [.ref (c_tp), .ref (c_pa), .ref (c_mk), .ref (c_sv), .ref (c_ex), .ref (c_lr), .ref (c_fo), .int (c_fs), .ref (c_to), .ref (c_sp)])) := (hq26.2 (x) _ h_x rfl).trans ((hq19.2 (x) _ h_x rfl).trans ((hq12.2 (x) _ h_x rfl).trans ((hq5.2 (x) _ h_x rfl).trans (ho_x))))
  refine hp_get (v := .ref (c_mk)) hx hb hts hown hZ fx40 fl_X11_28 rfl dX11_tapeIsFormAt_24 ?_
  obtain ⟨u42, u43, u44, u45, z46, eV41, hu47, hu48, hu49, hu50, h51, h52⟩ := hq_o11 hP.1 h_c_mk
  refine hp_get (v := .ref (u42)) hx hb hts hown hZ eV41 fl_X11_149 rfl dX11_tapeIsFormAt_27 ?_
  refine lv_aload_n hx hb dX11_tapeIsFormAt_30 rfl (lv_at hl 0 rfl) ?_
  refine hp_get (v := .ref (c_tp)) hx hb hts hown hZ fx40 fl_X11_14 rfl dX11_tapeIsFormAt_31 ?_
  obtain ⟨u60, z61, eV59, hu62, h63, h64, h65⟩ := hq_o8 hP.1 hu47
  refine hp_calli (hp_runV (As := [.ref (c_tp)]) (rest := []) hx hb hml hown hts (t_X3_find l D cs B G  V22 n hP.1 _ _ (u42) hu47 (c_tp) h_c_tp ) hZ eV59 cv_X11_226 rfl rfl ⟨Nat.le_of_ble_eq_true rfl, Nat.le_of_ble_eq_true rfl⟩ rfl hl.1 rfl (Nat.le_of_ble_eq_true rfl) dX11_tapeIsFormAt_34 ⟨(Nat.le_of_ble_eq_true rfl), (Nat.le_of_ble_eq_true rfl)⟩) hZ (fun r56 V53 n54 _ _ hw55 hZ => ?_)
  obtain ⟨rfl, hq57, hr58⟩ := hw55
  have hP := hP.trans hq57 (fun _ _ => rfl)
  have b66 := hq_rng r56
  refine lv_iconst (v := -1) hx hb dX11_tapeIsFormAt_37 (by decide) ?_
  refine lv_icmp_eq (tgt := 45) hx hb dX11_tapeIsFormAt_38 (by decide) (fun c67 => ?_) (fun c67 => ?_)
  · have c67 : (r56).toInt = (-1 : Int) := hq_eqi.mp c67
    refine lv_iconst (v := 0) hx hb dX11_tapeIsFormAt_45 (by decide) ?_
    have fx68 : V53 (x) = some (.inr (11, [.ref (c_tp), .ref (c_pa), .ref (c_mk), .ref (c_sv), .ref (c_ex), .ref (c_lr), .ref (c_fo), .int (c_fs), .ref (c_to), .ref (c_sp)])) := (hq57.2 (x) _ h_x rfl).trans (fx40)
    exact hp_zret hx hb hr rfl hlocks hZ ⟨rfl, hP, fx68, (by decide)⟩ dX11_tapeIsFormAt_46
  · have c67 : ¬ (r56).toInt = (-1 : Int) := fun h9 => c67 (hq_eqi.mpr h9)
    refine lv_iconst (v := 1) hx hb dX11_tapeIsFormAt_41 (by decide) ?_
    refine lv_goto (tgt := 46) hx hb dX11_tapeIsFormAt_42 (by decide) ?_
    have fx69 : V53 (x) = some (.inr (11, [.ref (c_tp), .ref (c_pa), .ref (c_mk), .ref (c_sv), .ref (c_ex), .ref (c_lr), .ref (c_fo), .int (c_fs), .ref (c_to), .ref (c_sp)])) := (hq57.2 (x) _ h_x rfl).trans (fx40)
    exact hp_zret hx hb hr rfl hlocks hZ ⟨rfl, hP, fx69, (by decide)⟩ dX11_tapeIsFormAt_46

set_option maxHeartbeats 4000000 in
set_option maxRecDepth 100000 in
theorem t_X11_notePlace_1 (l : Launch) (D : va_G) (cs : Nat → ClassId) (B : Nat) (G : hq_G) (V : hp_V) (n : Nat) (hI : hq_I cs G V) (x : Nat) (h_x : G x = some (15, 0, 0, 0)) (k : Int32) {c_tp c_pa c_mk c_sv c_ex c_lr c_fo c_to c_sp : Nat} {c_fs : Int32} (ho_x : V x = some (.inr (11, [.ref (c_tp), .ref (c_pa), .ref (c_mk), .ref (c_sv), .ref (c_ex), .ref (c_lr), .ref (c_fo), .int (c_fs), .ref (c_to), .ref (c_sp)]))) (h_c_tp : G c_tp = some (0, 4000, 0, 0)) (h_c_pa : G c_pa = some (10, 0, 0, 0)) (h_c_mk : G c_mk = some (11, 0, 0, 0)) (h_c_sv : G c_sv = some (12, 0, 0, 0)) (h_c_ex : G c_ex = some (14, 0, 0, 0)) (h_c_lr : G c_lr = some (4, 5, 8, 0)) (h_c_fo : G c_fo = some (2, 0, 60, 0)) (h_c_to : G c_to = some (6, 1, 0, 0)) (h_c_sp : G c_sp = some (6, 0, 0, 0)) (hi_x0 : 0 ≤ c_fs.toInt ∧ c_fs.toInt ≤ 60) : hp_M l yX11_notePlace cX11_notePlace 2 none ({ frames := 1, cells := 0, slots := 0, locals := 21 }) D cs B V n [.ref (x), .int (k)] (hp_QV D cs B (fun V' n' => n = n' ∧ hq_P cs G (fun g => g.1 == 0 || g.1 == 12) V V' ∧ (∃ (c_fs1 : Int32), V' x = some (.inr (11, [.ref (c_tp), .ref (c_pa), .ref (c_mk), .ref (c_sv), .ref (c_ex), .ref (c_lr), .ref (c_fo), .int (c_fs1), .ref (c_to), .ref (c_sp)])) ∧ (0 ≤ c_fs1.toInt ∧ c_fs1.toInt ≤ 60)))) 0 0 := by
  refine hp_walk (R0 := RX11) (by decide) rfl ?_ (Nat.le_of_ble_eq_true rfl)
  intro p e s m below meth c ls hx hb hr hts hown hlocks hin hml hZ hl
  have hP : hq_P cs G (fun g => g.1 == 0 || g.1 == 12) V V := hq_P.rf hI
  have hl : lv_has ls 2 [(0, .ref (x)), (1, .int (k))] := hl
  have hb_k := hq_rng k
  have hb_c_fs := hq_rng c_fs
  refine lv_aload_n hx hb dX11_notePlace_0 rfl (lv_at hl 0 rfl) ?_
  refine hp_get (v := .int (c_fs)) hx hb hts hown hZ ho_x fl_X11_57 rfl dX11_notePlace_1 ?_
  refine lv_bipush (v := 60) hx hb dX11_notePlace_4 (by decide) ?_
  refine lv_icmp_ge (tgt := 29) hx hb dX11_notePlace_6 (by decide) (fun c1 => ?_) (fun c1 => ?_)
  · have c1 : (60 : Int) ≤ (c_fs).toInt := hq_lei.mp c1
    exact hp_vret hx hb hr hlocks hZ ⟨rfl, hP, ⟨c_fs, ho_x, by omega⟩⟩ dX11_notePlace_29
  · have c1 : ¬ (60 : Int) ≤ (c_fs).toInt := fun h9 => c1 (hq_lei.mpr h9)
    refine lv_aload_n hx hb dX11_notePlace_9 rfl (lv_at hl 0 rfl) ?_
    refine hp_get (v := .ref (c_fo)) hx hb hts hown hZ ho_x fl_X11_53 rfl dX11_notePlace_10 ?_
    refine lv_aload_n hx hb dX11_notePlace_13 rfl (lv_at hl 0 rfl) ?_
    refine hp_get (v := .int (c_fs)) hx hb hts hown hZ ho_x fl_X11_57 rfl dX11_notePlace_14 ?_
    refine lv_iload_n hx hb dX11_notePlace_17 rfl (lv_at hl 1 rfl) ?_
    obtain ⟨hN4, g3, eV2, hf5⟩ := hq_o2 hP.1 h_c_fo
    refine hp_iast hx hb hZ eV2 (hq_in (by omega) (by omega)) dX11_notePlace_18 (fun V6 _ _ e7 o8 hZ => ?_)
    have e7 : V6 (c_fo) = some (.inl (cs 1, 60, .inl (upd (g3) ((c_fs : Int32).toNatClampNeg) (k)))) := e7
    have hP := hP.put h_c_fo e7 o8 (hq_c2 (by omega) (hq_upd hf5 (hq_rng _))) rfl
    refine lv_aload_n hx hb dX11_notePlace_19 rfl (lv_at hl 0 rfl) ?_
    refine lv_dup hx hb dX11_notePlace_20 rfl ?_
    have fx9 : V6 (x) = some (.inr (11, [.ref (c_tp), .ref (c_pa), .ref (c_mk), .ref (c_sv), .ref (c_ex), .ref (c_lr), .ref (c_fo), .int (c_fs), .ref (c_to), .ref (c_sp)])) := (o8 (x) (hq_tne h_x h_c_fo (by simp))).trans (ho_x)
    refine hp_get (v := .int (c_fs)) hx hb hts hown hZ fx9 fl_X11_57 rfl dX11_notePlace_21 ?_
    refine lv_iconst (v := 1) hx hb dX11_notePlace_24 (by decide) ?_
    refine lv_iadd hx hb dX11_notePlace_25 ?_
    refine lv_topi (fun y10 ey11 => ?_)
    obtain ⟨k12, hk13, b14, b15⟩ := hq_add (c_fs) (1)
    rw [← ey11] at hk13 b14 b15
    have hk13 : (y10).toInt = (c_fs).toInt + (1 : Int) + k12 * 4294967296 := hk13
    refine hp_put hx hb hts hown hZ fx9 fp_X11_57 rfl rfl (Nat.le_of_ble_eq_true rfl) dX11_notePlace_26 (fun V16 _ _ e17 o18 hZ => ?_)
    have e17 : V16 (x) = some (.inr (11, [.ref (c_tp), .ref (c_pa), .ref (c_mk), .ref (c_sv), .ref (c_ex), .ref (c_lr), .ref (c_fo), .int (y10), .ref (c_to), .ref (c_sp)])) := e17
    have hP := hP.put h_x e17 o18 (trivial) rfl
    exact hp_vret hx hb hr hlocks hZ ⟨rfl, hP, ⟨y10, e17, by omega⟩⟩ dX11_notePlace_29

set_option maxHeartbeats 4000000 in
set_option maxRecDepth 100000 in
theorem t_X11_read_1 (l : Launch) (D : va_G) (cs : Nat → ClassId) (B : Nat) (G : hq_G) (V : hp_V) (n : Nat) (hI : hq_I cs G V) (x : Nat) (h_x : G x = some (15, 0, 0, 0)) {c_tp c_pa c_mk c_sv c_ex c_lr c_fo c_to c_sp : Nat} {c_fs : Int32} (ho_x : V x = some (.inr (11, [.ref (c_tp), .ref (c_pa), .ref (c_mk), .ref (c_sv), .ref (c_ex), .ref (c_lr), .ref (c_fo), .int (c_fs), .ref (c_to), .ref (c_sp)]))) (h_c_tp : G c_tp = some (0, 4000, 0, 0)) (h_c_pa : G c_pa = some (10, 0, 0, 0)) (h_c_mk : G c_mk = some (11, 0, 0, 0)) (h_c_sv : G c_sv = some (12, 0, 0, 0)) (h_c_ex : G c_ex = some (14, 0, 0, 0)) (h_c_lr : G c_lr = some (4, 5, 8, 0)) (h_c_fo : G c_fo = some (2, 0, 60, 0)) (h_c_to : G c_to = some (6, 1, 0, 0)) (h_c_sp : G c_sp = some (6, 0, 0, 0)) (hi_x0 : 0 ≤ c_fs.toInt ∧ c_fs.toInt ≤ 60) {p_b : Nat} {p_z : Int32} (ho_c_tp : V c_tp = some (.inr (9, [.ref (p_b), .int (p_z)]))) (h_p_b : G p_b = some (1, 4000, 0, 0)) (hi_c_tp0 : 0 ≤ p_z.toInt ∧ p_z.toInt ≤ 4000) (hJ : hq_J cs V c_to) : hp_M l yX11_read cX11_read 5 (some .int) ({ frames := 8, cells := 0, slots := 0, locals := 200 }) D cs B V n [.ref (x)] (hp_QI D cs B (fun r V' n' => n = n' ∧ hq_P cs G (fun g => g.1 == 0 || g.1 == 2 || g.1 == 5 || g.1 == 6 || g.1 == 7 || g.1 == 12) V V' ∧ (∃ (c_fs1 : Int32), V' x = some (.inr (11, [.ref (c_tp), .ref (c_pa), .ref (c_mk), .ref (c_sv), .ref (c_ex), .ref (c_lr), .ref (c_fo), .int (c_fs1), .ref (c_to), .ref (c_sp)])) ∧ (0 ≤ c_fs1.toInt ∧ c_fs1.toInt ≤ 60)) ∧ (∃ (p_z1 : Int32), V' c_tp = some (.inr (9, [.ref (p_b), .int (p_z1)])) ∧ (0 ≤ p_z1.toInt ∧ p_z1.toInt ≤ 4000) ∧ (p_z1.toInt = 0)) ∧ True)) 0 0 := by
  refine hp_walk (R0 := RX11) (by decide) rfl ?_ (Nat.le_of_ble_eq_true rfl)
  intro p e s m below meth c ls hx hb hr hts hown hlocks hin hml hZ hl
  have hP : hq_P cs G (fun g => g.1 == 0 || g.1 == 2 || g.1 == 5 || g.1 == 6 || g.1 == 7 || g.1 == 12) V V := hq_P.rf hI
  have hl : lv_has ls 5 [(0, .ref (x))] := hl
  have hb_c_fs := hq_rng c_fs
  have hb_p_z := hq_rng p_z
  have hsh_c_tp := hq_sh0 hI h_c_tp ho_c_tp
  refine lv_aload_n hx hb dX11_read_0 rfl (lv_at hl 0 rfl) ?_
  refine hp_get (v := .ref (c_sv)) hx hb hts hown hZ ho_x fl_X11_35 rfl dX11_read_1 ?_
  refine lv_aload_n hx hb dX11_read_4 rfl (lv_at hl 0 rfl) ?_
  refine hp_get (v := .ref (c_to)) hx hb hts hown hZ ho_x fl_X11_64 rfl dX11_read_5 ?_
  refine lv_aload_n hx hb dX11_read_8 rfl (lv_at hl 0 rfl) ?_
  refine hp_get (v := .ref (c_mk)) hx hb hts hown hZ ho_x fl_X11_28 rfl dX11_read_9 ?_
  obtain ⟨z8, u9, u10, u11, eV7, hu12, hu13, hu14⟩ := hq_o12 hP.1 h_c_sv
  refine hp_callv (hp_runV (As := [.ref (c_to), .ref (c_mk)]) (rest := []) hx hb hml hown hts (t_X8_look l D cs B G  V n hP.1 _ (c_sv) h_c_sv (c_to) h_c_to (c_mk) h_c_mk (hJ.keep hP.1 h_c_to (hq_kp hP (by intro g h; simp [hq_lg] at h ⊢ <;> omega)))) hZ eV7 cv_X11_172 rfl rfl ⟨Nat.le_of_ble_eq_true rfl, Nat.le_of_ble_eq_true rfl⟩ rfl hl.1 rfl (Nat.le_of_ble_eq_true rfl) dX11_read_12 ⟨(Nat.le_of_ble_eq_true rfl), (Nat.le_of_ble_eq_true rfl)⟩) hZ (fun V1 n2 _ _ hw3 hZ => ?_)
  obtain ⟨rfl, hq5⟩ := hw3
  have hP := hP.trans hq5 (by intro g h; simp_all)
  refine lv_aload_n hx hb dX11_read_15 rfl (lv_at hl 0 rfl) ?_
  have fx15 : V1 (x) = some (.inr (11, [.ref (c_tp), .ref (c_pa), .ref (c_mk), .ref (c_sv), .ref (c_ex), .ref (c_lr), .ref (c_fo), .int (c_fs), .ref (c_to), .ref (c_sp)])) := (hq5.2 (x) _ h_x rfl).trans (ho_x)
  refine hp_get (v := .ref (c_tp)) hx hb hts hown hZ fx15 fl_X11_14 rfl dX11_read_16 ?_
  have fx22 : V1 (c_tp) = some (.inr (9, [.ref (p_b), .int (p_z)])) := (hq5.2 (c_tp) _ h_c_tp rfl).trans (ho_c_tp)
  refine hp_calll (hp_runV (As := []) (rest := []) hx hb hml hown hts (t_X9_mark l D cs B G  V1 n hP.1 _ (c_tp) h_c_tp ) hZ fx22 cv_X11_176 rfl rfl ⟨Nat.le_of_ble_eq_true rfl, Nat.le_of_ble_eq_true rfl⟩ rfl hl.1 rfl (Nat.le_of_ble_eq_true rfl) dX11_read_19 ⟨(Nat.le_of_ble_eq_true rfl), (Nat.le_of_ble_eq_true rfl)⟩) hZ (fun r19 V16 n17 _ _ hw18 hZ => ?_)
  obtain ⟨rfl, hq20, hr21⟩ := hw18
  have hP := hP.trans hq20 (fun _ _ => rfl)
  refine lv_lstore_n (lv' := [(1, .long (r19)), (0, .ref (x))]) hx hb dX11_read_22 rfl hl (by decide) rfl (fun ls hl => ?_)
  refine lv_iconst (v := 0) hx hb dX11_read_23 (by decide) ?_
  refine lv_istore_n (lv' := [(3, .int (0)), (1, .long (r19)), (0, .ref (x))]) hx hb dX11_read_24 rfl hl (by decide) rfl (fun ls hl => ?_)
  refine lv_aload_n hx hb dX11_read_25 rfl (lv_at hl 2 rfl) ?_
  refine lv_iconst (v := 0) hx hb dX11_read_26 (by decide) ?_
  have fx23 : V16 (x) = some (.inr (11, [.ref (c_tp), .ref (c_pa), .ref (c_mk), .ref (c_sv), .ref (c_ex), .ref (c_lr), .ref (c_fo), .int (c_fs), .ref (c_to), .ref (c_sp)])) := (hq20.2 (x) _ h_x rfl).trans (fx15)
  refine hp_put hx hb hts hown hZ fx23 fp_X11_57 rfl rfl (Nat.le_of_ble_eq_true rfl) dX11_read_27 (fun V24 _ _ e25 o26 hZ => ?_)
  have e25 : V24 (x) = some (.inr (11, [.ref (c_tp), .ref (c_pa), .ref (c_mk), .ref (c_sv), .ref (c_ex), .ref (c_lr), .ref (c_fo), .int (0), .ref (c_to), .ref (c_sp)])) := e25
  have hP := hP.put h_x e25 o26 (trivial) rfl
  refine lv_iconst (v := 0) hx hb dX11_read_30 (by decide) ?_
  refine lv_istore (lv' := [(4, .int (0)), (3, .int (0)), (1, .long (r19)), (0, .ref (x))]) hx hb dX11_read_31 hl (by decide) rfl (fun ls hl => ?_)
  have hl27 : (0 : Int32).toInt = 0 := by decide
  have hl28 : (0 : Int32).toInt = 0 := by decide
  have hl29 : (0 : Int32).toInt = 0 := by decide
  have fx31 : V24 (c_tp) = some (.inr (9, [.ref (p_b), .int (p_z)])) := (o26 (c_tp) (hq_tne h_c_tp h_x (by simp))).trans ((hq20.2 (c_tp) _ h_c_tp rfl).trans (fx22))
  suffices lp33 : ∀ (k9 : Nat) (V9 : hp_V) (H9 : Heap) (locs9 : List Loc) (ls : Array Slot) (all : Int32) (i : Int32) (fs9 : Int32) (z9 : Int32), (1000 - i.toInt).toNat = k9 → hp_Z D cs B s V9 H9 n locs9 → hq_P cs G (fun g => g.1 == 0 || g.1 == 2 || g.1 == 5 || g.1 == 6 || g.1 == 7 || g.1 == 12) V V9 → V9 (x) = some (.inr (11, [.ref (c_tp), .ref (c_pa), .ref (c_mk), .ref (c_sv), .ref (c_ex), .ref (c_lr), .ref (c_fo), .int (fs9), .ref (c_to), .ref (c_sp)])) → V9 (c_tp) = some (.inr (9, [.ref (p_b), .int (z9)])) → 0 ≤ i.toInt → i.toInt ≤ 900 → 0 ≤ fs9.toInt ∧ fs9.toInt ≤ 60 → 0 ≤ z9.toInt ∧ z9.toInt ≤ 4000 → lv_has ls 5 [(4, .int (i)), (3, .int (all)), (1, .long (r19)), (0, .ref (x))] → W p l e ({ frames := 8, cells := 0, slots := 0, locals := 200 }) s m ([.ref (x)] : List Value).toArray below meth c H9 locs9 0 0 (MQ below (hp_QI D cs B (fun r V' n' => n = n' ∧ hq_P cs G (fun g => g.1 == 0 || g.1 == 2 || g.1 == 5 || g.1 == 6 || g.1 == 7 || g.1 == 12) V V' ∧ (∃ (c_fs1 : Int32), V' x = some (.inr (11, [.ref (c_tp), .ref (c_pa), .ref (c_mk), .ref (c_sv), .ref (c_ex), .ref (c_lr), .ref (c_fo), .int (c_fs1), .ref (c_to), .ref (c_sp)])) ∧ (0 ≤ c_fs1.toInt ∧ c_fs1.toInt ≤ 60)) ∧ (∃ (p_z1 : Int32), V' c_tp = some (.inr (9, [.ref (p_b), .int (p_z1)])) ∧ (0 ≤ p_z1.toInt ∧ p_z1.toInt ≤ 4000) ∧ (p_z1.toInt = 0)) ∧ True)) ([.ref (x)] : List Value).toArray s 0 0 (hp_F B)) (F0 m 33 ls []) from lp33 _ _ _ _ ls (0) (0) (0) (p_z) rfl hZ hP e25 fx31 (by omega) (by omega) (by omega) (by omega) (lv_sub hl [0, 1, 2, 3] rfl)
  intro k9
  induction k9 using Nat.strongRecOn with
  | _ k9 ih33 =>
    intro V9 H9 locs9 ls all i fs9 z9 hk33 hZ hP ho30 ho32 hv33 hv34 hv35 hv36 hl
    have hb_all := hq_rng all
    have hb_i := hq_rng i
    have hb_fs9 := hq_rng fs9
    have hb_z9 := hq_rng z9
    have hP_33 := hP
    refine lv_iload hx hb dX11_read_33 (lv_at hl 0 rfl) ?_
    refine lv_aload_n hx hb dX11_read_35 rfl (lv_at hl 3 rfl) ?_
    refine hp_get (v := .ref (c_to)) hx hb hts hown hZ ho30 fl_X11_64 rfl dX11_read_36 ?_
    obtain ⟨u44, u45, u46, u47, z48, z49, z50, eV43, hu51, hu52, hu53, hu54, ⟨h55, h56⟩, ⟨h57, h58⟩, h59, h60⟩ := hq_o6 hP.1 h_c_to
    refine hp_calli (hp_runV (As := []) (rest := [.int (i)]) hx hb hml hown hts (t_X0_placeSize l D cs B G  V9 n hP.1 _ (c_to) h_c_to ) hZ eV43 cv_X11_180 rfl rfl ⟨Nat.le_of_ble_eq_true rfl, Nat.le_of_ble_eq_true rfl⟩ rfl hl.1 rfl (Nat.le_of_ble_eq_true rfl) dX11_read_39 ⟨(Nat.le_of_ble_eq_true rfl), (Nat.le_of_ble_eq_true rfl)⟩) hZ (fun r40 V37 n38 _ _ hw39 hZ => ?_)
    obtain ⟨rfl, hq41, hr42⟩ := hw39
    have hP := hP.trans hq41 (fun _ _ => rfl)
    have b61 := hq_rng r40
    refine lv_icmp_ge (tgt := 82) hx hb dX11_read_42 (by decide) (fun c62 => ?_) (fun c62 => ?_)
    · have c62 : (r40).toInt ≤ (i).toInt := hq_lei.mp c62
      refine lv_aload_n hx hb dX11_read_82 rfl (lv_at hl 3 rfl) ?_
      have fx63 : V37 (x) = some (.inr (11, [.ref (c_tp), .ref (c_pa), .ref (c_mk), .ref (c_sv), .ref (c_ex), .ref (c_lr), .ref (c_fo), .int (fs9), .ref (c_to), .ref (c_sp)])) := (hq41.2 (x) _ h_x rfl).trans (ho30)
      refine hp_get (v := .ref (c_tp)) hx hb hts hown hZ fx63 fl_X11_14 rfl dX11_read_83 ?_
      have fx70 : V37 (c_tp) = some (.inr (9, [.ref (p_b), .int (z9)])) := (hq41.2 (c_tp) _ h_c_tp rfl).trans (ho32)
      refine hp_callv (hp_runV (As := []) (rest := []) hx hb hml hown hts (t_X9_clearT l D cs B G  V37 n hP.1  (c_tp) h_c_tp fx70 h_p_b (by omega) ) hZ fx70 cv_X11_81 rfl rfl ⟨Nat.le_of_ble_eq_true rfl, Nat.le_of_ble_eq_true rfl⟩ rfl hl.1 rfl (Nat.le_of_ble_eq_true rfl) dX11_read_86 ⟨(Nat.le_of_ble_eq_true rfl), (Nat.le_of_ble_eq_true rfl)⟩) hZ (fun V64 n65 _ _ hw66 hZ => ?_)
      obtain ⟨rfl, hq68, ⟨z71, ho72, hi73, hi74⟩⟩ := hw66
      have hP := hP.trans hq68 (by intro g h; simp_all)
      have b75 := hq_rng z71
      refine lv_iload_n hx hb dX11_read_89 rfl (lv_at hl 1 rfl) ?_
      have fx76 : V64 (x) = some (.inr (11, [.ref (c_tp), .ref (c_pa), .ref (c_mk), .ref (c_sv), .ref (c_ex), .ref (c_lr), .ref (c_fo), .int (fs9), .ref (c_to), .ref (c_sp)])) := (hq68.2 (x) _ h_x rfl).trans (fx63)
      exact hp_iret hx hb hr hlocks hZ ⟨rfl, hP, ⟨fs9, fx76, by omega⟩, ⟨z71, ho72, by omega, by omega⟩, trivial⟩ dX11_read_90
    · have c62 : ¬ (r40).toInt ≤ (i).toInt := fun h9 => c62 (hq_lei.mpr h9)
      refine lv_aload_n hx hb dX11_read_45 rfl (lv_at hl 3 rfl) ?_
      have fx77 : V37 (x) = some (.inr (11, [.ref (c_tp), .ref (c_pa), .ref (c_mk), .ref (c_sv), .ref (c_ex), .ref (c_lr), .ref (c_fo), .int (fs9), .ref (c_to), .ref (c_sp)])) := (hq41.2 (x) _ h_x rfl).trans (ho30)
      refine hp_get (v := .ref (c_sv)) hx hb hts hown hZ fx77 fl_X11_35 rfl dX11_read_46 ?_
      refine lv_iload hx hb dX11_read_49 (lv_at hl 0 rfl) ?_
      refine lv_lload_n hx hb dX11_read_51 rfl (lv_at hl 2 rfl) ?_
      obtain ⟨z85, u86, u87, u88, eV84, hu89, hu90, hu91⟩ := hq_o12 hP.1 h_c_sv
      refine hp_calli (hp_runV (As := [.int (i), .long (r19)]) (rest := []) hx hb hml hown hts (t_X8_mayHave l D cs B G  V37 n hP.1  (c_sv) h_c_sv (i) (r19) (by omega) (by omega)) hZ eV84 cv_X11_184 rfl rfl ⟨Nat.le_of_ble_eq_true rfl, Nat.le_of_ble_eq_true rfl⟩ rfl hl.1 rfl (Nat.le_of_ble_eq_true rfl) dX11_read_52 ⟨(Nat.le_of_ble_eq_true rfl), (Nat.le_of_ble_eq_true rfl)⟩) hZ (fun r81 V78 n79 _ _ hw80 hZ => ?_)
      obtain ⟨rfl, hq82, hr83⟩ := hw80
      have hP := hP.trans hq82 (fun _ _ => rfl)
      have b92 := hq_rng r81
      refine lv_if_eq (tgt := 76) hx hb dX11_read_55 (by decide) (fun c93 => ?_) (fun c93 => ?_)
      · have c93 : (r81).toInt = (0 : Int) := hq_eqi.mp c93
        obtain ⟨y94, ey95⟩ : ∃ y : Int32, y = i + (1) := ⟨_, rfl⟩
        obtain ⟨k96, hk97, b98, b99⟩ := hq_add (i) (1)
        rw [← ey95] at hk97 b98 b99
        have hk97 : (y94).toInt = (i).toInt + (1) + k96 * 4294967296 := hk97
        refine lv_iinc (v := y94) (lv' := [(4, .int (y94)), (3, .int (all)), (1, .long (r19)), (0, .ref (x))]) hx hb dX11_read_76 hl (k := 0) rfl (by rw [ey95]; rfl) (by decide) rfl (fun ls hl => ?_)
        refine lv_goto (tgt := 33) hx hb dX11_read_79 (by decide) ?_
        have fx100 : V78 (x) = some (.inr (11, [.ref (c_tp), .ref (c_pa), .ref (c_mk), .ref (c_sv), .ref (c_ex), .ref (c_lr), .ref (c_fo), .int (fs9), .ref (c_to), .ref (c_sp)])) := (hq82.2 (x) _ h_x rfl).trans (fx77)
        have fx101 : V78 (c_tp) = some (.inr (9, [.ref (p_b), .int (z9)])) := (hq82.2 (c_tp) _ h_c_tp rfl).trans ((hq41.2 (c_tp) _ h_c_tp rfl).trans (ho32))
        exact ih33 _ (by omega) _ _ _ ls (all) (y94) (fs9) (z9) rfl hZ hP fx100 fx101 (by omega) (by omega) (by omega) (by omega) (lv_sub hl [0, 1, 2, 3] rfl)
      · have c93 : ¬ (r81).toInt = (0 : Int) := fun h9 => c93 (hq_eqi.mpr h9)
        refine lv_aload_n hx hb dX11_read_58 rfl (lv_at hl 3 rfl) ?_
        refine lv_iload hx hb dX11_read_59 (lv_at hl 0 rfl) ?_
        have fx108 : V78 (x) = some (.inr (11, [.ref (c_tp), .ref (c_pa), .ref (c_mk), .ref (c_sv), .ref (c_ex), .ref (c_lr), .ref (c_fo), .int (fs9), .ref (c_to), .ref (c_sp)])) := (hq82.2 (x) _ h_x rfl).trans (fx77)
        refine hp_calli (hp_runV (As := [.int (i)]) (rest := []) hx hb hml hown hts (t_X11_tapeIsFormAt_1 l D cs B G  V78 n hP.1  (x) h_x (i) fx108 h_c_tp h_c_pa h_c_mk h_c_sv h_c_ex h_c_lr h_c_fo h_c_to h_c_sp (by omega) (hJ.keep hP.1 h_c_to (hq_kp hP (by intro g h; simp [hq_lg] at h ⊢ <;> omega))) (by omega) (by omega)) hZ fx108 cv_X11_188 rfl rfl ⟨Nat.le_of_ble_eq_true rfl, Nat.le_of_ble_eq_true rfl⟩ rfl hl.1 rfl (Nat.le_of_ble_eq_true rfl) dX11_read_61 ⟨(Nat.le_of_ble_eq_true rfl), (Nat.le_of_ble_eq_true rfl)⟩) hZ (fun r105 V102 n103 _ _ hw104 hZ => ?_)
        obtain ⟨rfl, hq106, ho109, hr107⟩ := hw104
        have hP := hP.trans hq106 (by intro g h; simp_all)
        have b110 := hq_rng r105
        refine lv_if_eq (tgt := 76) hx hb dX11_read_64 (by decide) (fun c111 => ?_) (fun c111 => ?_)
        · have c111 : (r105).toInt = (0 : Int) := hq_eqi.mp c111
          obtain ⟨y112, ey113⟩ : ∃ y : Int32, y = i + (1) := ⟨_, rfl⟩
          obtain ⟨k114, hk115, b116, b117⟩ := hq_add (i) (1)
          rw [← ey113] at hk115 b116 b117
          have hk115 : (y112).toInt = (i).toInt + (1) + k114 * 4294967296 := hk115
          refine lv_iinc (v := y112) (lv' := [(4, .int (y112)), (3, .int (all)), (1, .long (r19)), (0, .ref (x))]) hx hb dX11_read_76 hl (k := 0) rfl (by rw [ey113]; rfl) (by decide) rfl (fun ls hl => ?_)
          refine lv_goto (tgt := 33) hx hb dX11_read_79 (by decide) ?_
          have fx118 : V102 (c_tp) = some (.inr (9, [.ref (p_b), .int (z9)])) := (hq106.2 (c_tp) _ h_c_tp rfl).trans ((hq82.2 (c_tp) _ h_c_tp rfl).trans ((hq41.2 (c_tp) _ h_c_tp rfl).trans (ho32)))
          exact ih33 _ (by omega) _ _ _ ls (all) (y112) (fs9) (z9) rfl hZ hP ho109 fx118 (by omega) (by omega) (by omega) (by omega) (lv_sub hl [0, 1, 2, 3] rfl)
        · have c111 : ¬ (r105).toInt = (0 : Int) := fun h9 => c111 (hq_eqi.mpr h9)
          obtain ⟨y119, ey120⟩ : ∃ y : Int32, y = all + (1) := ⟨_, rfl⟩
          obtain ⟨k121, hk122, b123, b124⟩ := hq_add (all) (1)
          rw [← ey120] at hk122 b123 b124
          have hk122 : (y119).toInt = (all).toInt + (1) + k121 * 4294967296 := hk122
          refine lv_iinc (v := y119) (lv' := [(3, .int (y119)), (4, .int (i)), (1, .long (r19)), (0, .ref (x))]) hx hb dX11_read_67 hl (k := 1) rfl (by rw [ey120]; rfl) (by decide) rfl (fun ls hl => ?_)
          refine lv_aload_n hx hb dX11_read_70 rfl (lv_at hl 3 rfl) ?_
          refine lv_iload hx hb dX11_read_71 (lv_at hl 1 rfl) ?_
          refine hp_callv (hp_runV (As := [.int (i)]) (rest := []) hx hb hml hown hts (t_X11_notePlace_1 l D cs B G  V102 n hP.1  (x) h_x (i) ho109 h_c_tp h_c_pa h_c_mk h_c_sv h_c_ex h_c_lr h_c_fo h_c_to h_c_sp (by omega) ) hZ ho109 cv_X11_192 rfl rfl ⟨Nat.le_of_ble_eq_true rfl, Nat.le_of_ble_eq_true rfl⟩ rfl hl.1 rfl (Nat.le_of_ble_eq_true rfl) dX11_read_73 ⟨(Nat.le_of_ble_eq_true rfl), (Nat.le_of_ble_eq_true rfl)⟩) hZ (fun V125 n126 _ _ hw127 hZ => ?_)
          obtain ⟨rfl, hq129, ⟨z131, ho132, hi133⟩⟩ := hw127
          have hP := hP.trans hq129 (by intro g h; simp_all)
          have b134 := hq_rng z131
          obtain ⟨y135, ey136⟩ : ∃ y : Int32, y = i + (1) := ⟨_, rfl⟩
          obtain ⟨k137, hk138, b139, b140⟩ := hq_add (i) (1)
          rw [← ey136] at hk138 b139 b140
          have hk138 : (y135).toInt = (i).toInt + (1) + k137 * 4294967296 := hk138
          refine lv_iinc (v := y135) (lv' := [(4, .int (y135)), (3, .int (y119)), (1, .long (r19)), (0, .ref (x))]) hx hb dX11_read_76 hl (k := 1) rfl (by rw [ey136]; rfl) (by decide) rfl (fun ls hl => ?_)
          refine lv_goto (tgt := 33) hx hb dX11_read_79 (by decide) ?_
          have fx141 : V125 (c_tp) = some (.inr (9, [.ref (p_b), .int (z9)])) := (hq129.2 (c_tp) _ h_c_tp rfl).trans ((hq106.2 (c_tp) _ h_c_tp rfl).trans ((hq82.2 (c_tp) _ h_c_tp rfl).trans ((hq41.2 (c_tp) _ h_c_tp rfl).trans (ho32))))
          exact ih33 _ (by omega) _ _ _ ls (y119) (y135) (z131) (z9) rfl hZ hP ho132 fx141 (by omega) (by omega) (by omega) (by omega) (lv_sub hl [0, 1, 2, 3] rfl)

set_option maxHeartbeats 4000000 in
set_option maxRecDepth 100000 in
theorem t_X11_drill_1 (l : Launch) (D : va_G) (cs : Nat → ClassId) (B : Nat) (G : hq_G) (V : hp_V) (n : Nat) (hI : hq_I cs G V) (x : Nat) (h_x : G x = some (15, 0, 0, 0)) (k : Int32) {c_tp c_pa c_mk c_sv c_ex c_lr c_fo c_to c_sp : Nat} {c_fs : Int32} (ho_x : V x = some (.inr (11, [.ref (c_tp), .ref (c_pa), .ref (c_mk), .ref (c_sv), .ref (c_ex), .ref (c_lr), .ref (c_fo), .int (c_fs), .ref (c_to), .ref (c_sp)]))) (h_c_tp : G c_tp = some (0, 4000, 0, 0)) (h_c_pa : G c_pa = some (10, 0, 0, 0)) (h_c_mk : G c_mk = some (11, 0, 0, 0)) (h_c_sv : G c_sv = some (12, 0, 0, 0)) (h_c_ex : G c_ex = some (14, 0, 0, 0)) (h_c_lr : G c_lr = some (4, 5, 8, 0)) (h_c_fo : G c_fo = some (2, 0, 60, 0)) (h_c_to : G c_to = some (6, 1, 0, 0)) (h_c_sp : G c_sp = some (6, 0, 0, 0)) (hi_x0 : 0 ≤ c_fs.toInt ∧ c_fs.toInt ≤ 60) (hJ : hq_J cs V c_to) : hp_M l yX11_drill cX11_drill 7 (some .int) ({ frames := 8, cells := 0, slots := 0, locals := 200 }) D cs B V n [.ref (x), .int (k)] (hp_QI D cs B (fun r V' n' => n = n' ∧ hq_P cs G (fun g => g.1 == 0 || g.1 == 5 || g.1 == 6 || g.1 == 7) V V' ∧ (V' x = some (.inr (11, [.ref (c_tp), .ref (c_pa), .ref (c_mk), .ref (c_sv), .ref (c_ex), .ref (c_lr), .ref (c_fo), .int (c_fs), .ref (c_to), .ref (c_sp)]))) ∧ True)) 0 0 := by
  refine hp_walk (R0 := RX11) (by decide) rfl ?_ (Nat.le_of_ble_eq_true rfl)
  intro p e s m below meth c ls hx hb hr hts hown hlocks hin hml hZ hl
  have hP : hq_P cs G (fun g => g.1 == 0 || g.1 == 5 || g.1 == 6 || g.1 == 7) V V := hq_P.rf hI
  have hl : lv_has ls 7 [(0, .ref (x)), (1, .int (k))] := hl
  have hb_k := hq_rng k
  have hb_c_fs := hq_rng c_fs
  refine lv_iload_n hx hb dX11_drill_0 rfl (lv_at hl 1 rfl) ?_
  refine hp_calli (hp_runS (As := [.int (k)]) (rest := []) hx hb hml hown hts (t_X11_isLearner l D cs B G  V n hP.1  (k) ) hZ cv_X11_218 rfl rfl ⟨Nat.le_of_ble_eq_true rfl, Nat.le_of_ble_eq_true rfl⟩ rfl hl.1 rfl (Nat.le_of_ble_eq_true rfl) dX11_drill_1 ⟨(Nat.le_of_ble_eq_true rfl), (Nat.le_of_ble_eq_true rfl)⟩) hZ (fun r4 V1 n2 _ _ hw3 hZ => ?_)
  obtain ⟨rfl, hq5, hr6⟩ := hw3
  have hP := hP.trans hq5 (fun _ _ => rfl)
  have b7 := hq_rng r4
  refine lv_if_ne (tgt := 10) hx hb dX11_drill_4 (by decide) (fun c8 => ?_) (fun c8 => ?_)
  · have c8 : ¬ (r4).toInt = (0 : Int) := fun h9 => c8 (hq_eqi.mpr h9)
    refine lv_aload_n hx hb dX11_drill_10 rfl (lv_at hl 0 rfl) ?_
    have fx9 : V1 (x) = some (.inr (11, [.ref (c_tp), .ref (c_pa), .ref (c_mk), .ref (c_sv), .ref (c_ex), .ref (c_lr), .ref (c_fo), .int (c_fs), .ref (c_to), .ref (c_sp)])) := (hq5.2 (x) _ h_x rfl).trans (ho_x)
    refine hp_get (v := .ref (c_sv)) hx hb hts hown hZ fx9 fl_X11_35 rfl dX11_drill_11 ?_
    refine lv_aload_n hx hb dX11_drill_14 rfl (lv_at hl 0 rfl) ?_
    refine hp_get (v := .ref (c_to)) hx hb hts hown hZ fx9 fl_X11_64 rfl dX11_drill_15 ?_
    refine lv_aload_n hx hb dX11_drill_18 rfl (lv_at hl 0 rfl) ?_
    refine hp_get (v := .ref (c_mk)) hx hb hts hown hZ fx9 fl_X11_28 rfl dX11_drill_19 ?_
    obtain ⟨z17, u18, u19, u20, eV16, hu21, hu22, hu23⟩ := hq_o12 hP.1 h_c_sv
    refine hp_callv (hp_runV (As := [.ref (c_to), .ref (c_mk)]) (rest := []) hx hb hml hown hts (t_X8_look l D cs B G  V1 n hP.1 _ (c_sv) h_c_sv (c_to) h_c_to (c_mk) h_c_mk (hJ.keep hP.1 h_c_to (hq_kp hP (by intro g h; simp [hq_lg] at h ⊢ <;> omega)))) hZ eV16 cv_X11_172 rfl rfl ⟨Nat.le_of_ble_eq_true rfl, Nat.le_of_ble_eq_true rfl⟩ rfl hl.1 rfl (Nat.le_of_ble_eq_true rfl) dX11_drill_22 ⟨(Nat.le_of_ble_eq_true rfl), (Nat.le_of_ble_eq_true rfl)⟩) hZ (fun V10 n11 _ _ hw12 hZ => ?_)
    obtain ⟨rfl, hq14⟩ := hw12
    have hP := hP.trans hq14 (by intro g h; simp_all)
    refine lv_aload_n hx hb dX11_drill_25 rfl (lv_at hl 0 rfl) ?_
    have fx24 : V10 (x) = some (.inr (11, [.ref (c_tp), .ref (c_pa), .ref (c_mk), .ref (c_sv), .ref (c_ex), .ref (c_lr), .ref (c_fo), .int (c_fs), .ref (c_to), .ref (c_sp)])) := (hq14.2 (x) _ h_x rfl).trans (fx9)
    refine hp_get (v := .ref (c_lr)) hx hb hts hown hZ fx24 fl_X11_48 rfl dX11_drill_26 ?_
    refine lv_iload_n hx hb dX11_drill_29 rfl (lv_at hl 1 rfl) ?_
    obtain ⟨hN27, g26, eV25, hf28, _⟩ := hq_o4 hP.1 h_c_lr
    obtain ⟨u29, hx30, hu31⟩ := hf28 (k : Int32).toNatClampNeg (hq_ix (by omega) (by omega))
    have hu31 : G u29 = some (9, 0, 0, 0) := hu31
    refine hp_aald (v := .ref (u29)) hx hb hZ 5 eV25 rfl (hq_in (by omega) (by omega)) (by rw [hx30]; rfl) dX11_drill_30 ?_
    refine lv_astore_n (lv' := [(2, .ref (u29)), (0, .ref (x)), (1, .int (k))]) hx hb dX11_drill_31 rfl hl (by decide) rfl (fun ls hl => ?_)
    refine lv_iconst (v := -1) hx hb dX11_drill_32 (by decide) ?_
    refine lv_istore_n (lv' := [(3, .int (-1)), (2, .ref (u29)), (0, .ref (x)), (1, .int (k))]) hx hb dX11_drill_33 rfl hl (by decide) rfl (fun ls hl => ?_)
    refine lv_iconst (v := -1) hx hb dX11_drill_34 (by decide) ?_
    refine lv_istore (lv' := [(4, .int (-1)), (3, .int (-1)), (2, .ref (u29)), (0, .ref (x)), (1, .int (k))]) hx hb dX11_drill_35 hl (by decide) rfl (fun ls hl => ?_)
    refine lv_iconst (v := 0) hx hb dX11_drill_37 (by decide) ?_
    refine lv_istore (lv' := [(5, .int (0)), (4, .int (-1)), (3, .int (-1)), (2, .ref (u29)), (0, .ref (x)), (1, .int (k))]) hx hb dX11_drill_38 hl (by decide) rfl (fun ls hl => ?_)
    have hl32 : (-1 : Int32).toInt = -1 := by decide
    have hl33 : (-1 : Int32).toInt = -1 := by decide
    have hl34 : (0 : Int32).toInt = 0 := by decide
    suffices lp40 : ∀ (k9 : Nat) (V9 : hp_V) (H9 : Heap) (locs9 : List Loc) (ls : Array Slot) (best : Int32) (most : Int32) (i : Int32), (1000 - i.toInt).toNat = k9 → hp_Z D cs B s V9 H9 n locs9 → hq_P cs G (fun g => g.1 == 0 || g.1 == 5 || g.1 == 6 || g.1 == 7) V V9 → 0 ≤ i.toInt → i.toInt ≤ 900 → lv_has ls 7 [(5, .int (i)), (4, .int (most)), (3, .int (best)), (2, .ref (u29)), (0, .ref (x)), (1, .int (k))] → W p l e ({ frames := 8, cells := 0, slots := 0, locals := 200 }) s m ([.ref (x), .int (k)] : List Value).toArray below meth c H9 locs9 0 0 (MQ below (hp_QI D cs B (fun r V' n' => n = n' ∧ hq_P cs G (fun g => g.1 == 0 || g.1 == 5 || g.1 == 6 || g.1 == 7) V V' ∧ (V' x = some (.inr (11, [.ref (c_tp), .ref (c_pa), .ref (c_mk), .ref (c_sv), .ref (c_ex), .ref (c_lr), .ref (c_fo), .int (c_fs), .ref (c_to), .ref (c_sp)]))) ∧ True)) ([.ref (x), .int (k)] : List Value).toArray s 0 0 (hp_F B)) (F0 m 40 ls []) from lp40 _ _ _ _ ls (-1) (-1) (0) rfl hZ hP (by omega) (by omega) (lv_sub hl [0, 1, 2, 3, 4, 5] rfl)
    intro k9
    induction k9 using Nat.strongRecOn with
    | _ k9 ih40 =>
      intro V9 H9 locs9 ls best most i  hk40 hZ hP  hv35 hv36 hl
      have hb_best := hq_rng best
      have hb_most := hq_rng most
      have hb_i := hq_rng i
      have hP_40 := hP
      refine lv_iload hx hb dX11_drill_40 (lv_at hl 0 rfl) ?_
      refine lv_aload_n hx hb dX11_drill_42 rfl (lv_at hl 4 rfl) ?_
      have fx37 : V9 (x) = some (.inr (11, [.ref (c_tp), .ref (c_pa), .ref (c_mk), .ref (c_sv), .ref (c_ex), .ref (c_lr), .ref (c_fo), .int (c_fs), .ref (c_to), .ref (c_sp)])) := (hP_40.2 (x) _ h_x rfl).trans (ho_x)
      refine hp_get (v := .ref (c_to)) hx hb hts hown hZ fx37 fl_X11_64 rfl dX11_drill_43 ?_
      obtain ⟨u45, u46, u47, u48, z49, z50, z51, eV44, hu52, hu53, hu54, hu55, ⟨h56, h57⟩, ⟨h58, h59⟩, h60, h61⟩ := hq_o6 hP.1 h_c_to
      refine hp_calli (hp_runV (As := []) (rest := [.int (i)]) hx hb hml hown hts (t_X0_placeSize l D cs B G  V9 n hP.1 _ (c_to) h_c_to ) hZ eV44 cv_X11_180 rfl rfl ⟨Nat.le_of_ble_eq_true rfl, Nat.le_of_ble_eq_true rfl⟩ rfl hl.1 rfl (Nat.le_of_ble_eq_true rfl) dX11_drill_46 ⟨(Nat.le_of_ble_eq_true rfl), (Nat.le_of_ble_eq_true rfl)⟩) hZ (fun r41 V38 n39 _ _ hw40 hZ => ?_)
      obtain ⟨rfl, hq42, hr43⟩ := hw40
      have hP := hP.trans hq42 (fun _ _ => rfl)
      have b62 := hq_rng r41
      refine lv_icmp_ge (tgt := 109) hx hb dX11_drill_49 (by decide) (fun c63 => ?_) (fun c63 => ?_)
      · have c63 : (r41).toInt ≤ (i).toInt := hq_lei.mp c63
        refine lv_iload_n hx hb dX11_drill_109 rfl (lv_at hl 2 rfl) ?_
        refine lv_iconst (v := -1) hx hb dX11_drill_110 (by decide) ?_
        refine lv_icmp_ne (tgt := 118) hx hb dX11_drill_111 (by decide) (fun c64 => ?_) (fun c64 => ?_)
        · have c64 : ¬ (best).toInt = (-1 : Int) := fun h9 => c64 (hq_eqi.mpr h9)
          refine lv_bipush (v := 100) hx hb dX11_drill_118 (by decide) ?_
          refine lv_iload_n hx hb dX11_drill_120 rfl (lv_at hl 2 rfl) ?_
          refine hp_calli (hp_runS (As := [.int (best)]) (rest := [.int (100)]) hx hb hml hown hts (t_X11_verbOf_any l D cs B G  V38 n hP.1  (best) ) hZ cv_X11_195 rfl rfl ⟨Nat.le_of_ble_eq_true rfl, Nat.le_of_ble_eq_true rfl⟩ rfl hl.1 rfl (Nat.le_of_ble_eq_true rfl) dX11_drill_121 ⟨(Nat.le_of_ble_eq_true rfl), (Nat.le_of_ble_eq_true rfl)⟩) hZ (fun r68 V65 n66 _ _ hw67 hZ => ?_)
          obtain ⟨rfl, hq69, hr70⟩ := hw67
          have hP := hP.trans hq69 (fun _ _ => rfl)
          have b71 := hq_rng r68
          refine lv_imul hx hb dX11_drill_124 ?_
          refine lv_topi (fun y72 ey73 => ?_)
          obtain ⟨k74, hk75, b76, b77⟩ := hq_mul (100) (r68)
          rw [← ey73] at hk75 b76 b77
          have hk75 : (y72).toInt = (100 : Int) * (r68).toInt + k74 * 4294967296 := hk75
          refine lv_bipush (v := 10) hx hb dX11_drill_125 (by decide) ?_
          refine lv_iload_n hx hb dX11_drill_127 rfl (lv_at hl 2 rfl) ?_
          refine hp_calli (hp_runS (As := [.int (best)]) (rest := [.int (10), .int (y72)]) hx hb hml hown hts (t_X11_tenseOf_any l D cs B G  V65 n hP.1  (best) ) hZ cv_X11_198 rfl rfl ⟨Nat.le_of_ble_eq_true rfl, Nat.le_of_ble_eq_true rfl⟩ rfl hl.1 rfl (Nat.le_of_ble_eq_true rfl) dX11_drill_128 ⟨(Nat.le_of_ble_eq_true rfl), (Nat.le_of_ble_eq_true rfl)⟩) hZ (fun r81 V78 n79 _ _ hw80 hZ => ?_)
          obtain ⟨rfl, hq82, hr83⟩ := hw80
          have hP := hP.trans hq82 (fun _ _ => rfl)
          have b84 := hq_rng r81
          refine lv_imul hx hb dX11_drill_131 ?_
          refine lv_topi (fun y85 ey86 => ?_)
          obtain ⟨k87, hk88, b89, b90⟩ := hq_mul (10) (r81)
          rw [← ey86] at hk88 b89 b90
          have hk88 : (y85).toInt = (10 : Int) * (r81).toInt + k87 * 4294967296 := hk88
          refine lv_iadd hx hb dX11_drill_132 ?_
          refine lv_topi (fun y91 ey92 => ?_)
          obtain ⟨k93, hk94, b95, b96⟩ := hq_add (y72) (y85)
          rw [← ey92] at hk94 b95 b96
          have hk94 : (y91).toInt = (y72).toInt + (y85).toInt + k93 * 4294967296 := hk94
          refine lv_iload_n hx hb dX11_drill_133 rfl (lv_at hl 2 rfl) ?_
          refine hp_calli (hp_runS (As := [.int (best)]) (rest := [.int (y91)]) hx hb hml hown hts (t_X11_personOf_any l D cs B G  V78 n hP.1  (best) ) hZ cv_X11_201 rfl rfl ⟨Nat.le_of_ble_eq_true rfl, Nat.le_of_ble_eq_true rfl⟩ rfl hl.1 rfl (Nat.le_of_ble_eq_true rfl) dX11_drill_134 ⟨(Nat.le_of_ble_eq_true rfl), (Nat.le_of_ble_eq_true rfl)⟩) hZ (fun r100 V97 n98 _ _ hw99 hZ => ?_)
          obtain ⟨rfl, hq101, hr102⟩ := hw99
          have hP := hP.trans hq101 (fun _ _ => rfl)
          have b103 := hq_rng r100
          refine lv_iadd hx hb dX11_drill_137 ?_
          refine lv_topi (fun y104 ey105 => ?_)
          obtain ⟨k106, hk107, b108, b109⟩ := hq_add (y91) (r100)
          rw [← ey105] at hk107 b108 b109
          have hk107 : (y104).toInt = (y91).toInt + (r100).toInt + k106 * 4294967296 := hk107
          have fx110 : V97 (x) = some (.inr (11, [.ref (c_tp), .ref (c_pa), .ref (c_mk), .ref (c_sv), .ref (c_ex), .ref (c_lr), .ref (c_fo), .int (c_fs), .ref (c_to), .ref (c_sp)])) := (hq101.2 (x) _ h_x rfl).trans ((hq82.2 (x) _ h_x rfl).trans ((hq69.2 (x) _ h_x rfl).trans ((hq42.2 (x) _ h_x rfl).trans (fx37))))
          exact hp_iret hx hb hr hlocks hZ ⟨rfl, hP, fx110, trivial⟩ dX11_drill_138
        · have c64 : (best).toInt = (-1 : Int) := hq_eqi.mp c64
          refine lv_iconst (v := -1) hx hb dX11_drill_114 (by decide) ?_
          refine lv_goto (tgt := 138) hx hb dX11_drill_115 (by decide) ?_
          have fx111 : V38 (x) = some (.inr (11, [.ref (c_tp), .ref (c_pa), .ref (c_mk), .ref (c_sv), .ref (c_ex), .ref (c_lr), .ref (c_fo), .int (c_fs), .ref (c_to), .ref (c_sp)])) := (hq42.2 (x) _ h_x rfl).trans (fx37)
          exact hp_iret hx hb hr hlocks hZ ⟨rfl, hP, fx111, trivial⟩ dX11_drill_138
      · have c63 : ¬ (r41).toInt ≤ (i).toInt := fun h9 => c63 (hq_lei.mpr h9)
        refine lv_aload_n hx hb dX11_drill_52 rfl (lv_at hl 4 rfl) ?_
        have fx112 : V38 (x) = some (.inr (11, [.ref (c_tp), .ref (c_pa), .ref (c_mk), .ref (c_sv), .ref (c_ex), .ref (c_lr), .ref (c_fo), .int (c_fs), .ref (c_to), .ref (c_sp)])) := (hq42.2 (x) _ h_x rfl).trans (fx37)
        refine hp_get (v := .ref (c_sv)) hx hb hts hown hZ fx112 fl_X11_35 rfl dX11_drill_53 ?_
        refine lv_iload hx hb dX11_drill_56 (lv_at hl 0 rfl) ?_
        obtain ⟨z120, u121, u122, u123, eV119, hu124, hu125, hu126⟩ := hq_o12 hP.1 h_c_sv
        refine hp_calli (hp_runV (As := [.int (i)]) (rest := []) hx hb hml hown hts (t_X8_hasForm l D cs B G  V38 n hP.1  (c_sv) h_c_sv (i) (by omega) (by omega)) hZ eV119 cv_X11_269 rfl rfl ⟨Nat.le_of_ble_eq_true rfl, Nat.le_of_ble_eq_true rfl⟩ rfl hl.1 rfl (Nat.le_of_ble_eq_true rfl) dX11_drill_58 ⟨(Nat.le_of_ble_eq_true rfl), (Nat.le_of_ble_eq_true rfl)⟩) hZ (fun r116 V113 n114 _ _ hw115 hZ => ?_)
        obtain ⟨rfl, hq117, hr118⟩ := hw115
        have hP := hP.trans hq117 (fun _ _ => rfl)
        have b127 := hq_rng r116
        refine lv_if_eq (tgt := 103) hx hb dX11_drill_61 (by decide) (fun c128 => ?_) (fun c128 => ?_)
        · have c128 : (r116).toInt = (0 : Int) := hq_eqi.mp c128
          obtain ⟨y129, ey130⟩ : ∃ y : Int32, y = i + (1) := ⟨_, rfl⟩
          obtain ⟨k131, hk132, b133, b134⟩ := hq_add (i) (1)
          rw [← ey130] at hk132 b133 b134
          have hk132 : (y129).toInt = (i).toInt + (1) + k131 * 4294967296 := hk132
          refine lv_iinc (v := y129) (lv' := [(5, .int (y129)), (4, .int (most)), (3, .int (best)), (2, .ref (u29)), (0, .ref (x)), (1, .int (k))]) hx hb dX11_drill_103 hl (k := 0) rfl (by rw [ey130]; rfl) (by decide) rfl (fun ls hl => ?_)
          refine lv_goto (tgt := 40) hx hb dX11_drill_106 (by decide) ?_
          exact ih40 _ (by omega) _ _ _ ls (best) (most) (y129) rfl hZ hP (by omega) (by omega) (lv_sub hl [0, 1, 2, 3, 4, 5] rfl)
        · have c128 : ¬ (r116).toInt = (0 : Int) := fun h9 => c128 (hq_eqi.mpr h9)
          refine lv_aload_n hx hb dX11_drill_64 rfl (lv_at hl 3 rfl) ?_
          refine lv_iload hx hb dX11_drill_65 (lv_at hl 0 rfl) ?_
          obtain ⟨u142, u143, eV141, hu144, hu145⟩ := hq_o9 hP.1 hu31
          refine hp_calli (hp_runV (As := [.int (i)]) (rest := []) hx hb hml hown hts (t_X4_hasJustAnswered l D cs B G  V113 n hP.1  (u29) hu31 (i) ) hZ eV141 cv_X11_272 rfl rfl ⟨Nat.le_of_ble_eq_true rfl, Nat.le_of_ble_eq_true rfl⟩ rfl hl.1 rfl (Nat.le_of_ble_eq_true rfl) dX11_drill_67 ⟨(Nat.le_of_ble_eq_true rfl), (Nat.le_of_ble_eq_true rfl)⟩) hZ (fun r138 V135 n136 _ _ hw137 hZ => ?_)
          obtain ⟨rfl, hq139, hr140⟩ := hw137
          have hP := hP.trans hq139 (fun _ _ => rfl)
          have b146 := hq_rng r138
          refine lv_if_ne (tgt := 103) hx hb dX11_drill_70 (by decide) (fun c147 => ?_) (fun c147 => ?_)
          · have c147 : ¬ (r138).toInt = (0 : Int) := fun h9 => c147 (hq_eqi.mpr h9)
            obtain ⟨y148, ey149⟩ : ∃ y : Int32, y = i + (1) := ⟨_, rfl⟩
            obtain ⟨k150, hk151, b152, b153⟩ := hq_add (i) (1)
            rw [← ey149] at hk151 b152 b153
            have hk151 : (y148).toInt = (i).toInt + (1) + k150 * 4294967296 := hk151
            refine lv_iinc (v := y148) (lv' := [(5, .int (y148)), (4, .int (most)), (3, .int (best)), (2, .ref (u29)), (0, .ref (x)), (1, .int (k))]) hx hb dX11_drill_103 hl (k := 0) rfl (by rw [ey149]; rfl) (by decide) rfl (fun ls hl => ?_)
            refine lv_goto (tgt := 40) hx hb dX11_drill_106 (by decide) ?_
            exact ih40 _ (by omega) _ _ _ ls (best) (most) (y148) rfl hZ hP (by omega) (by omega) (lv_sub hl [0, 1, 2, 3, 4, 5] rfl)
          · have c147 : (r138).toInt = (0 : Int) := hq_eqi.mp c147
            refine lv_aload_n hx hb dX11_drill_73 rfl (lv_at hl 3 rfl) ?_
            refine lv_aload_n hx hb dX11_drill_74 rfl (lv_at hl 4 rfl) ?_
            have fx154 : V135 (x) = some (.inr (11, [.ref (c_tp), .ref (c_pa), .ref (c_mk), .ref (c_sv), .ref (c_ex), .ref (c_lr), .ref (c_fo), .int (c_fs), .ref (c_to), .ref (c_sp)])) := (hq139.2 (x) _ h_x rfl).trans ((hq117.2 (x) _ h_x rfl).trans (fx112))
            refine hp_get (v := .ref (c_sv)) hx hb hts hown hZ fx154 fl_X11_35 rfl dX11_drill_75 ?_
            have fx155 : V135 (c_sv) = some (.inr (8, [.int (z120), .ref (u121), .ref (u122), .ref (u123)])) := (hq139.2 (c_sv) _ h_c_sv rfl).trans ((hq117.2 (c_sv) _ h_c_sv rfl).trans (eV119))
            refine hp_get (v := .ref (u121)) hx hb hts hown hZ fx155 fl_X11_275 rfl dX11_drill_78 ?_
            refine lv_iload hx hb dX11_drill_81 (lv_at hl 0 rfl) ?_
            obtain ⟨hN158, g157, eV156⟩ := hq_o3 hP.1 hu124
            refine hp_lald hx hb hZ eV156 (hq_in (by omega) (by omega)) dX11_drill_83 ?_
            refine lv_topl (fun y160 ey161 => ?_)
            have fx168 : V135 (u29) = some (.inr (4, [.ref (u142), .ref (u143)])) := (hq139.2 (u29) _ hu31 rfl).trans (eV141)
            refine hp_calli (hp_runV (As := [.long (y160)]) (rest := []) hx hb hml hown hts (t_X4_sumOf l D cs B G  V135 n hP.1  (u29) hu31 (y160) ) hZ fx168 cv_X11_279 rfl rfl ⟨Nat.le_of_ble_eq_true rfl, Nat.le_of_ble_eq_true rfl⟩ rfl hl.1 rfl (Nat.le_of_ble_eq_true rfl) dX11_drill_84 ⟨(Nat.le_of_ble_eq_true rfl), (Nat.le_of_ble_eq_true rfl)⟩) hZ (fun r165 V162 n163 _ _ hw164 hZ => ?_)
            obtain ⟨rfl, hq166, hr167⟩ := hw164
            have hP := hP.trans hq166 (fun _ _ => rfl)
            have b169 := hq_rng r165
            refine lv_istore (lv' := [(6, .int (r165)), (5, .int (i)), (4, .int (most)), (3, .int (best)), (2, .ref (u29)), (0, .ref (x)), (1, .int (k))]) hx hb dX11_drill_87 hl (by decide) rfl (fun ls hl => ?_)
            refine lv_iload hx hb dX11_drill_89 (lv_at hl 0 rfl) ?_
            refine lv_iload hx hb dX11_drill_91 (lv_at hl 2 rfl) ?_
            refine lv_icmp_le (tgt := 103) hx hb dX11_drill_93 (by decide) (fun c170 => ?_) (fun c170 => ?_)
            · have c170 : (r165).toInt ≤ (most).toInt := hq_lei.mp c170
              obtain ⟨y171, ey172⟩ : ∃ y : Int32, y = i + (1) := ⟨_, rfl⟩
              obtain ⟨k173, hk174, b175, b176⟩ := hq_add (i) (1)
              rw [← ey172] at hk174 b175 b176
              have hk174 : (y171).toInt = (i).toInt + (1) + k173 * 4294967296 := hk174
              refine lv_iinc (v := y171) (lv' := [(5, .int (y171)), (6, .int (r165)), (4, .int (most)), (3, .int (best)), (2, .ref (u29)), (0, .ref (x)), (1, .int (k))]) hx hb dX11_drill_103 hl (k := 1) rfl (by rw [ey172]; rfl) (by decide) rfl (fun ls hl => ?_)
              refine lv_goto (tgt := 40) hx hb dX11_drill_106 (by decide) ?_
              exact ih40 _ (by omega) _ _ _ ls (best) (most) (y171) rfl hZ hP (by omega) (by omega) (lv_sub hl [0, 2, 3, 4, 5, 6] rfl)
            · have c170 : ¬ (r165).toInt ≤ (most).toInt := fun h9 => c170 (hq_lei.mpr h9)
              refine lv_iload hx hb dX11_drill_96 (lv_at hl 0 rfl) ?_
              refine lv_istore (lv' := [(4, .int (r165)), (6, .int (r165)), (5, .int (i)), (3, .int (best)), (2, .ref (u29)), (0, .ref (x)), (1, .int (k))]) hx hb dX11_drill_98 hl (by decide) rfl (fun ls hl => ?_)
              refine lv_iload hx hb dX11_drill_100 (lv_at hl 2 rfl) ?_
              refine lv_istore_n (lv' := [(3, .int (i)), (4, .int (r165)), (6, .int (r165)), (5, .int (i)), (2, .ref (u29)), (0, .ref (x)), (1, .int (k))]) hx hb dX11_drill_102 rfl hl (by decide) rfl (fun ls hl => ?_)
              obtain ⟨y177, ey178⟩ : ∃ y : Int32, y = i + (1) := ⟨_, rfl⟩
              obtain ⟨k179, hk180, b181, b182⟩ := hq_add (i) (1)
              rw [← ey178] at hk180 b181 b182
              have hk180 : (y177).toInt = (i).toInt + (1) + k179 * 4294967296 := hk180
              refine lv_iinc (v := y177) (lv' := [(5, .int (y177)), (3, .int (i)), (4, .int (r165)), (6, .int (r165)), (2, .ref (u29)), (0, .ref (x)), (1, .int (k))]) hx hb dX11_drill_103 hl (k := 3) rfl (by rw [ey178]; rfl) (by decide) rfl (fun ls hl => ?_)
              refine lv_goto (tgt := 40) hx hb dX11_drill_106 (by decide) ?_
              exact ih40 _ (by omega) _ _ _ ls (i) (r165) (y177) rfl hZ hP (by omega) (by omega) (lv_sub hl [0, 2, 1, 4, 5, 6] rfl)
  · have c8 : (r4).toInt = (0 : Int) := hq_eqi.mp c8
    refine lv_bipush (v := -2) hx hb dX11_drill_7 (by decide) ?_
    have fx183 : V1 (x) = some (.inr (11, [.ref (c_tp), .ref (c_pa), .ref (c_mk), .ref (c_sv), .ref (c_ex), .ref (c_lr), .ref (c_fo), .int (c_fs), .ref (c_to), .ref (c_sp)])) := (hq5.2 (x) _ h_x rfl).trans (ho_x)
    exact hp_iret hx hb hr hlocks hZ ⟨rfl, hP, fx183, trivial⟩ dX11_drill_9

set_option maxHeartbeats 4000000 in
set_option maxRecDepth 100000 in
theorem t_X11_forgetAll_1 (l : Launch) (D : va_G) (cs : Nat → ClassId) (B : Nat) (G : hq_G) (V : hp_V) (n : Nat) (hI : hq_I cs G V) (x : Nat) (h_x : G x = some (15, 0, 0, 0)) {c_tp c_pa c_mk c_sv c_ex c_lr c_fo c_to c_sp : Nat} {c_fs : Int32} (ho_x : V x = some (.inr (11, [.ref (c_tp), .ref (c_pa), .ref (c_mk), .ref (c_sv), .ref (c_ex), .ref (c_lr), .ref (c_fo), .int (c_fs), .ref (c_to), .ref (c_sp)]))) (h_c_tp : G c_tp = some (0, 4000, 0, 0)) (h_c_pa : G c_pa = some (10, 0, 0, 0)) (h_c_mk : G c_mk = some (11, 0, 0, 0)) (h_c_sv : G c_sv = some (12, 0, 0, 0)) (h_c_ex : G c_ex = some (14, 0, 0, 0)) (h_c_lr : G c_lr = some (4, 5, 8, 0)) (h_c_fo : G c_fo = some (2, 0, 60, 0)) (h_c_to : G c_to = some (6, 1, 0, 0)) (h_c_sp : G c_sp = some (6, 0, 0, 0)) (hi_x0 : 0 ≤ c_fs.toInt ∧ c_fs.toInt ≤ 60) {e_be e_tr e_st e_en e_wo e_ki e_mi e_ta : Nat} {e_fd e_sz : Int32} {e_bk e_an e_mk : Value} (ho_c_ex : V c_ex = some (.inr (1, [.ref (e_be), .ref (e_tr), .int (e_fd), .ref (e_st), .ref (e_en), .ref (e_wo), e_bk, e_an, e_mk, .int (e_sz), .ref (e_ki), .ref (e_mi), .ref (e_ta)]))) (h_e_be : G e_be = some (13, 0, 0, 0)) (h_e_tr : G e_tr = some (13, 0, 0, 0)) (h_e_st : G e_st = some (0, 30, 0, 0)) (h_e_en : G e_en = some (0, 30, 0, 0)) (h_e_wo : G e_wo = some (0, 30, 0, 0)) (h_e_ki : G e_ki = some (2, 8, 2, 0)) (h_e_mi : G e_mi = some (2, 8, 2, 0)) (h_e_ta : G e_ta = some (2, 8, 2, 0)) (hi_c_ex0 : 0 ≤ e_fd.toInt ∧ e_fd.toInt ≤ 1) (hi_c_ex1 : 0 ≤ e_sz.toInt ∧ e_sz.toInt ≤ 2) : hp_M l yX11_forgetAll cX11_forgetAll 2 none ({ frames := 2, cells := 0, slots := 0, locals := 42 }) D cs B V n [.ref (x)] (hp_QV D cs B (fun V' n' => n = n' ∧ hq_P cs G (fun g => g.1 == 0 || g.1 == 8 || g.1 == 12) V V' ∧ (∃ (c_fs1 : Int32), V' x = some (.inr (11, [.ref (c_tp), .ref (c_pa), .ref (c_mk), .ref (c_sv), .ref (c_ex), .ref (c_lr), .ref (c_fo), .int (c_fs1), .ref (c_to), .ref (c_sp)])) ∧ (0 ≤ c_fs1.toInt ∧ c_fs1.toInt ≤ 60)) ∧ (∃ (e_sz1 : Int32), V' c_ex = some (.inr (1, [.ref (e_be), .ref (e_tr), .int (e_fd), .ref (e_st), .ref (e_en), .ref (e_wo), e_bk, e_an, e_mk, .int (e_sz1), .ref (e_ki), .ref (e_mi), .ref (e_ta)])) ∧ (0 ≤ e_sz1.toInt ∧ e_sz1.toInt ≤ 2) ∧ (e_sz1.toInt = 0)))) 0 0 := by
  refine hp_walk (R0 := RX11) (by decide) rfl ?_ (Nat.le_of_ble_eq_true rfl)
  intro p e s m below meth c ls hx hb hr hts hown hlocks hin hml hZ hl
  have hP : hq_P cs G (fun g => g.1 == 0 || g.1 == 8 || g.1 == 12) V V := hq_P.rf hI
  have hl : lv_has ls 2 [(0, .ref (x))] := hl
  have hb_c_fs := hq_rng c_fs
  have hb_e_fd := hq_rng e_fd
  have hb_e_sz := hq_rng e_sz
  refine lv_iconst (v := 0) hx hb dX11_forgetAll_0 (by decide) ?_
  refine lv_istore_n (lv' := [(1, .int (0)), (0, .ref (x))]) hx hb dX11_forgetAll_1 rfl hl (by decide) rfl (fun ls hl => ?_)
  have hl1 : (0 : Int32).toInt = 0 := by decide
  suffices lp2 : ∀ (k9 : Nat) (V9 : hp_V) (H9 : Heap) (locs9 : List Loc) (ls : Array Slot) (i : Int32), (100 - i.toInt).toNat = k9 → hp_Z D cs B s V9 H9 n locs9 → hq_P cs G (fun g => g.1 == 0 || g.1 == 8 || g.1 == 12) V V9 → V9 (x) = some (.inr (11, [.ref (c_tp), .ref (c_pa), .ref (c_mk), .ref (c_sv), .ref (c_ex), .ref (c_lr), .ref (c_fo), .int (c_fs), .ref (c_to), .ref (c_sp)])) → V9 (c_ex) = some (.inr (1, [.ref (e_be), .ref (e_tr), .int (e_fd), .ref (e_st), .ref (e_en), .ref (e_wo), e_bk, e_an, e_mk, .int (e_sz), .ref (e_ki), .ref (e_mi), .ref (e_ta)])) → 0 ≤ i.toInt → i.toInt ≤ 8 → lv_has ls 2 [(1, .int (i)), (0, .ref (x))] → W p l e ({ frames := 2, cells := 0, slots := 0, locals := 42 }) s m ([.ref (x)] : List Value).toArray below meth c H9 locs9 0 0 (MQ below (hp_QV D cs B (fun V' n' => n = n' ∧ hq_P cs G (fun g => g.1 == 0 || g.1 == 8 || g.1 == 12) V V' ∧ (∃ (c_fs1 : Int32), V' x = some (.inr (11, [.ref (c_tp), .ref (c_pa), .ref (c_mk), .ref (c_sv), .ref (c_ex), .ref (c_lr), .ref (c_fo), .int (c_fs1), .ref (c_to), .ref (c_sp)])) ∧ (0 ≤ c_fs1.toInt ∧ c_fs1.toInt ≤ 60)) ∧ (∃ (e_sz1 : Int32), V' c_ex = some (.inr (1, [.ref (e_be), .ref (e_tr), .int (e_fd), .ref (e_st), .ref (e_en), .ref (e_wo), e_bk, e_an, e_mk, .int (e_sz1), .ref (e_ki), .ref (e_mi), .ref (e_ta)])) ∧ (0 ≤ e_sz1.toInt ∧ e_sz1.toInt ≤ 2) ∧ (e_sz1.toInt = 0)))) ([.ref (x)] : List Value).toArray s 0 0 (hp_F B)) (F0 m 2 ls []) from lp2 _ _ _ _ ls (0) rfl hZ hP ho_x ho_c_ex (by omega) (by omega) (lv_sub hl [0, 1] rfl)
  intro k9
  induction k9 using Nat.strongRecOn with
  | _ k9 ih2 =>
    intro V9 H9 locs9 ls i  hk2 hZ hP ho2 ho3 hv4 hv5 hl
    have hb_i := hq_rng i
    have hP_2 := hP
    refine lv_iload_n hx hb dX11_forgetAll_2 rfl (lv_at hl 0 rfl) ?_
    refine lv_bipush (v := 8) hx hb dX11_forgetAll_3 (by decide) ?_
    refine lv_icmp_ge (tgt := 23) hx hb dX11_forgetAll_5 (by decide) (fun c6 => ?_) (fun c6 => ?_)
    · have c6 : (8 : Int) ≤ (i).toInt := hq_lei.mp c6
      refine lv_aload_n hx hb dX11_forgetAll_23 rfl (lv_at hl 1 rfl) ?_
      refine lv_iconst (v := 0) hx hb dX11_forgetAll_24 (by decide) ?_
      refine hp_put hx hb hts hown hZ ho2 fp_X11_57 rfl rfl (Nat.le_of_ble_eq_true rfl) dX11_forgetAll_25 (fun V7 _ _ e8 o9 hZ => ?_)
      have e8 : V7 (x) = some (.inr (11, [.ref (c_tp), .ref (c_pa), .ref (c_mk), .ref (c_sv), .ref (c_ex), .ref (c_lr), .ref (c_fo), .int (0), .ref (c_to), .ref (c_sp)])) := e8
      have hP := hP.put h_x e8 o9 (trivial) rfl
      refine lv_aload_n hx hb dX11_forgetAll_28 rfl (lv_at hl 1 rfl) ?_
      refine hp_get (v := .ref (c_ex)) hx hb hts hown hZ e8 fl_X11_42 rfl dX11_forgetAll_29 ?_
      have fx16 : V7 (c_ex) = some (.inr (1, [.ref (e_be), .ref (e_tr), .int (e_fd), .ref (e_st), .ref (e_en), .ref (e_wo), e_bk, e_an, e_mk, .int (e_sz), .ref (e_ki), .ref (e_mi), .ref (e_ta)])) := (o9 (c_ex) (hq_tne h_c_ex h_x (by simp))).trans (ho3)
      refine hp_callv (hp_runV (As := []) (rest := []) hx hb hml hown hts (t_X1_forget l D cs B G  V7 n hP.1  (c_ex) h_c_ex fx16 h_e_be h_e_tr h_e_st h_e_en h_e_wo h_e_ki h_e_mi h_e_ta (by omega) (by omega) ) hZ fx16 cv_X11_288 rfl rfl ⟨Nat.le_of_ble_eq_true rfl, Nat.le_of_ble_eq_true rfl⟩ rfl hl.1 rfl (Nat.le_of_ble_eq_true rfl) dX11_forgetAll_32 ⟨(Nat.le_of_ble_eq_true rfl), (Nat.le_of_ble_eq_true rfl)⟩) hZ (fun V10 n11 _ _ hw12 hZ => ?_)
      obtain ⟨rfl, hq14, ⟨z17, ho18, hi19, hi20⟩⟩ := hw12
      have hP := hP.trans hq14 (by intro g h; simp_all)
      have b21 := hq_rng z17
      refine lv_aload_n hx hb dX11_forgetAll_35 rfl (lv_at hl 1 rfl) ?_
      have fx22 : V10 (x) = some (.inr (11, [.ref (c_tp), .ref (c_pa), .ref (c_mk), .ref (c_sv), .ref (c_ex), .ref (c_lr), .ref (c_fo), .int (0), .ref (c_to), .ref (c_sp)])) := (hq14.2 (x) _ h_x rfl).trans (e8)
      refine hp_get (v := .ref (c_sv)) hx hb hts hown hZ fx22 fl_X11_35 rfl dX11_forgetAll_36 ?_
      refine lv_iconst (v := 0) hx hb dX11_forgetAll_39 (by decide) ?_
      obtain ⟨z24, u25, u26, u27, eV23, hu28, hu29, hu30⟩ := hq_o12 hP.1 h_c_sv
      refine hp_put hx hb hts hown hZ eV23 fp_X11_289 rfl rfl (Nat.le_of_ble_eq_true rfl) dX11_forgetAll_40 (fun V31 _ _ e32 o33 hZ => ?_)
      have e32 : V31 (c_sv) = some (.inr (8, [.int (0), .ref (u25), .ref (u26), .ref (u27)])) := e32
      have hP := hP.put h_c_sv e32 o33 (hq_c12 hu28 hu29 hu30) rfl
      have fx34 : V31 (x) = some (.inr (11, [.ref (c_tp), .ref (c_pa), .ref (c_mk), .ref (c_sv), .ref (c_ex), .ref (c_lr), .ref (c_fo), .int (0), .ref (c_to), .ref (c_sp)])) := (o33 (x) (hq_tne h_x h_c_sv (by simp))).trans (fx22)
      have hl35 : (0 : Int32).toInt = 0 := by decide
      have fx36 : V31 (c_ex) = some (.inr (1, [.ref (e_be), .ref (e_tr), .int (e_fd), .ref (e_st), .ref (e_en), .ref (e_wo), e_bk, e_an, e_mk, .int (z17), .ref (e_ki), .ref (e_mi), .ref (e_ta)])) := (o33 (c_ex) (hq_tne h_c_ex h_c_sv (by simp))).trans (ho18)
      exact hp_vret hx hb hr hlocks hZ ⟨rfl, hP, ⟨0, fx34, by omega⟩, ⟨z17, fx36, by omega, by omega⟩⟩ dX11_forgetAll_43
    · have c6 : ¬ (8 : Int) ≤ (i).toInt := fun h9 => c6 (hq_lei.mpr h9)
      refine lv_aload_n hx hb dX11_forgetAll_8 rfl (lv_at hl 1 rfl) ?_
      refine hp_get (v := .ref (c_lr)) hx hb hts hown hZ ho2 fl_X11_48 rfl dX11_forgetAll_9 ?_
      refine lv_iload_n hx hb dX11_forgetAll_12 rfl (lv_at hl 0 rfl) ?_
      obtain ⟨hN39, g38, eV37, hf40, _⟩ := hq_o4 hP.1 h_c_lr
      obtain ⟨u41, hx42, hu43⟩ := hf40 (i : Int32).toNatClampNeg (hq_ix (by omega) (by omega))
      have hu43 : G u41 = some (9, 0, 0, 0) := hu43
      refine hp_aald (v := .ref (u41)) hx hb hZ 5 eV37 rfl (hq_in (by omega) (by omega)) (by rw [hx42]; rfl) dX11_forgetAll_13 ?_
      obtain ⟨u51, u52, eV50, hu53, hu54⟩ := hq_o9 hP.1 hu43
      refine hp_callv (hp_runV (As := []) (rest := []) hx hb hml hown hts (t_X4_forget l D cs B G  V9 n hP.1  (u41) hu43 ) hZ eV50 cv_X11_285 rfl rfl ⟨Nat.le_of_ble_eq_true rfl, Nat.le_of_ble_eq_true rfl⟩ rfl hl.1 rfl (Nat.le_of_ble_eq_true rfl) dX11_forgetAll_14 ⟨(Nat.le_of_ble_eq_true rfl), (Nat.le_of_ble_eq_true rfl)⟩) hZ (fun V44 n45 _ _ hw46 hZ => ?_)
      obtain ⟨rfl, hq48⟩ := hw46
      have hP := hP.trans hq48 (by intro g h; simp_all)
      obtain ⟨y55, ey56⟩ : ∃ y : Int32, y = i + (1) := ⟨_, rfl⟩
      obtain ⟨k57, hk58, b59, b60⟩ := hq_add (i) (1)
      rw [← ey56] at hk58 b59 b60
      have hk58 : (y55).toInt = (i).toInt + (1) + k57 * 4294967296 := hk58
      refine lv_iinc (v := y55) (lv' := [(1, .int (y55)), (0, .ref (x))]) hx hb dX11_forgetAll_17 hl (k := 0) rfl (by rw [ey56]; rfl) (by decide) rfl (fun ls hl => ?_)
      refine lv_goto (tgt := 2) hx hb dX11_forgetAll_20 (by decide) ?_
      have fx61 : V44 (x) = some (.inr (11, [.ref (c_tp), .ref (c_pa), .ref (c_mk), .ref (c_sv), .ref (c_ex), .ref (c_lr), .ref (c_fo), .int (c_fs), .ref (c_to), .ref (c_sp)])) := (hq48.2 (x) _ h_x rfl).trans (ho2)
      have fx62 : V44 (c_ex) = some (.inr (1, [.ref (e_be), .ref (e_tr), .int (e_fd), .ref (e_st), .ref (e_en), .ref (e_wo), e_bk, e_an, e_mk, .int (e_sz), .ref (e_ki), .ref (e_mi), .ref (e_ta)])) := (hq48.2 (c_ex) _ h_c_ex rfl).trans (ho3)
      exact ih2 _ (by omega) _ _ _ ls (y55) rfl hZ hP fx61 fx62 (by omega) (by omega) (lv_sub hl [0, 1] rfl)

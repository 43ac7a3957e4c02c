set_option maxHeartbeats 4000000 in
set_option maxRecDepth 100000 in
theorem y_isAsked (l : Launch) (D : va_G) (cs : Nat → ClassId) (B : Nat) (G : hq_G) (V : hp_V) (n : Nat) (hI : hq_I cs G V) (q : Nat) (mo : Nat) (m_tp : Int32) (m_sz : Int32) (m_fr : Int32) (m_bh : Int32) (m_hd : Int32) (m_ft : Int32) (m_fa : Int32) (m_le : Int32) (m_fo : Int32) (m_as : Int32) (m_fd : Int32) (m_bc : Int32) (m_bg : Int32) (m_bs : Int32) (m_be : Int32) (m_b0 : Int32) (m_b1 : Int32) (m_cm : Int32) (m_hc : Int32) (wf : Nat → Int32) (af : Nat → Int32) (u : List Int) (ask : List Int) (hc0 : V (mo) = some (.inr (13, hm_o q (m_tp) (m_sz) (m_fr) (m_bh) (m_hd) (m_ft) (m_fa) (m_le) (m_fo) (m_as) (m_fd) (m_bc) (m_bg) (m_bs) (m_be) (m_b0) (m_b1) (m_cm) (m_hc)))) (hc1 : V (q + 21) = some (.inl (cs 0, 276, .inl (wf)))) (hc2 : V (q + 37) = some (.inl (cs 0, 4000, .inl (af)))) (hR : hq_RT G q) (hmo : G mo = some (24, 0, 0, 0)) (hu : sp_rp m_le wf u) (hask : sp_rp m_as af ask) (hle : m_le.toInt ≤ 276) (has : m_as.toInt ≤ 4000) : hp_M l yX13_isAsked cX13_isAsked 2 (some .boolean) ({ frames := 1, cells := 0, slots := 0, locals := 21 }) D cs B V n [.ref (mo)] (hp_QI D cs B (fun r V' n' => n = n' ∧ V = V' ∧ ((r.toInt = 1 ∧ u = ask) ∨ (r.toInt = 0 ∧ ¬ u = ask)))) 0 0 := by
  refine hp_walk (R0 := RX13) (by decide) rfl ?_ (Nat.le_of_ble_eq_true rfl)
  intro p e s m below meth c ls hx hb hr hts hown hlocks hin hml hZ hl
  have hP : hq_I cs G V := hI
  have hl : lv_has ls 2 [(0, .ref (mo))] := hl
  have hb_m_tp := hq_rng m_tp
  have hb_m_sz := hq_rng m_sz
  have hb_m_fr := hq_rng m_fr
  have hb_m_bh := hq_rng m_bh
  have hb_m_hd := hq_rng m_hd
  have hb_m_ft := hq_rng m_ft
  have hb_m_fa := hq_rng m_fa
  have hb_m_le := hq_rng m_le
  have hb_m_fo := hq_rng m_fo
  have hb_m_as := hq_rng m_as
  have hb_m_fd := hq_rng m_fd
  have hb_m_bc := hq_rng m_bc
  have hb_m_bg := hq_rng m_bg
  have hb_m_bs := hq_rng m_bs
  have hb_m_be := hq_rng m_be
  have hb_m_b0 := hq_rng m_b0
  have hb_m_b1 := hq_rng m_b1
  have hb_m_cm := hq_rng m_cm
  have hb_m_hc := hq_rng m_hc
  have hu1 := hu.1
  have ha1 := hask.1
  refine lv_aload_n hx hb dX13_isAsked_0 rfl (lv_at hl 0 rfl) ?_
  refine hp_get (v := .int (m_le)) hx hb hts hown hZ hc0 fl_X13_331 rfl dX13_isAsked_1 ?_
  refine lv_aload_n hx hb dX13_isAsked_4 rfl (lv_at hl 0 rfl) ?_
  refine hp_get (v := .int (m_as)) hx hb hts hown hZ hc0 fl_X13_389 rfl dX13_isAsked_5 ?_
  refine lv_icmp_eq (tgt := 13) hx hb dX13_isAsked_8 (by decide) (fun c1 => ?_) (fun c1 => ?_)
  · have c1 : (m_le).toInt = (m_as).toInt := hq_eqi.mp c1
    refine lv_iconst (v := 0) hx hb dX13_isAsked_13 (by decide) ?_
    refine lv_istore_n (lv' := [(1, .int (0)), (0, .ref (mo))]) hx hb dX13_isAsked_14 rfl hl (by decide) rfl (fun ls hl => ?_)
    have hl2 : (0 : Int32).toInt = 0 := by decide
    suffices lp15 : ∀ (k9 : Nat) (H9 : Heap) (locs9 : List Loc) (ls : Array Slot) (i : Int32), (1000 - i.toInt).toNat = k9 → hp_Z D cs B s V H9 n locs9 → hq_I cs G V → 0 ≤ i.toInt → i.toInt ≤ m_le.toInt → (∀ j : Nat, (j : Int) < i.toInt → wf j = af j) → lv_has ls 2 [(1, .int (i)), (0, .ref (mo))] → W p l e ({ frames := 1, cells := 0, slots := 0, locals := 21 }) s m ([.ref (mo)] : List Value).toArray below meth c H9 locs9 0 0 (MQ below (hp_QI D cs B (fun r V' n' => n = n' ∧ V = V' ∧ ((r.toInt = 1 ∧ u = ask) ∨ (r.toInt = 0 ∧ ¬ u = ask)))) ([.ref (mo)] : List Value).toArray s 0 0 (hp_F B)) (F0 m 15 ls []) from lp15 _ _ _ ls (0) rfl hZ hP (by omega) (by omega) (fun j hj => by omega) (lv_sub hl [0, 1] rfl)
    intro k9
    induction k9 using Nat.strongRecOn with
    | _ k9 ih15 =>
      intro H9 locs9 ls i   hk15 hZ hP    hv3 hv4 hall hl
      have hb_i := hq_rng i
      refine lv_iload_n hx hb dX13_isAsked_15 rfl (lv_at hl 0 rfl) ?_
      refine lv_aload_n hx hb dX13_isAsked_16 rfl (lv_at hl 1 rfl) ?_
      refine hp_get (v := .int (m_le)) hx hb hts hown hZ hc0 fl_X13_331 rfl dX13_isAsked_17 ?_
      refine lv_icmp_ge (tgt := 46) hx hb dX13_isAsked_20 (by decide) (fun c5 => ?_) (fun c5 => ?_)
      · have c5 : (m_le).toInt ≤ (i).toInt := hq_lei.mp c5
        refine lv_iconst (v := 1) hx hb dX13_isAsked_46 (by decide) ?_
        have hl6 : (1 : Int32).toInt = 1 := by decide
        exact hp_zret hx hb hr rfl hlocks hZ ⟨rfl, rfl, Or.inl ⟨by omega, (hu.same hask).mp ⟨by omega, fun j hj => hall j (by omega)⟩⟩⟩ dX13_isAsked_47
      · have c5 : ¬ (m_le).toInt ≤ (i).toInt := fun h9 => c5 (hq_lei.mpr h9)
        refine lv_aload_n hx hb dX13_isAsked_23 rfl (lv_at hl 1 rfl) ?_
        refine hp_get (v := .ref (q + 21)) hx hb hts hown hZ hc0 fl_X13_213 rfl dX13_isAsked_24 ?_
        refine lv_iload_n hx hb dX13_isAsked_27 rfl (lv_at hl 0 rfl) ?_
        refine hp_bald hx hb hZ hc1 (hq_in (by omega) (by omega)) dX13_isAsked_28 ?_
        refine lv_topi (fun y7 ey8 => ?_)
        have b9 := hq_rng y7
        refine lv_aload_n hx hb dX13_isAsked_29 rfl (lv_at hl 1 rfl) ?_
        refine hp_get (v := .ref (q + 37)) hx hb hts hown hZ hc0 fl_X13_262 rfl dX13_isAsked_30 ?_
        refine lv_iload_n hx hb dX13_isAsked_33 rfl (lv_at hl 0 rfl) ?_
        refine hp_bald hx hb hZ hc2 (hq_in (by omega) (by omega)) dX13_isAsked_34 ?_
        refine lv_topi (fun y10 ey11 => ?_)
        have b12 := hq_rng y10
        refine lv_icmp_eq (tgt := 40) hx hb dX13_isAsked_35 (by decide) (fun c13 => ?_) (fun c13 => ?_)
        · have c13 : (y7).toInt = (y10).toInt := hq_eqi.mp c13
          obtain ⟨y14, ey15⟩ : ∃ y : Int32, y = i + (1) := ⟨_, rfl⟩
          obtain ⟨k16, hk17, b18, b19⟩ := hq_add (i) (1)
          rw [← ey15] at hk17 b18 b19
          have hk17 : (y14).toInt = (i).toInt + (1) + k16 * 4294967296 := hk17
          obtain rfl : k16 = 0 := by omega
          refine lv_iinc (v := y14) (lv' := [(1, .int (y14)), (0, .ref (mo))]) hx hb dX13_isAsked_40 hl (k := 0) rfl (by rw [ey15]; rfl) (by decide) rfl (fun ls hl => ?_)
          refine lv_goto (tgt := 15) hx hb dX13_isAsked_43 (by decide) ?_
          exact ih15 _ (by omega) _ _ ls (y14) rfl hZ hP (by omega) (by omega) (fun j hj => by by_cases c9 : (j : Int) < i.toInt; (· exact hall j c9); (· have h8 := (hq_nn (z := i) (by omega)).1; rw [show j = i.toNatClampNeg by omega]; exact (ey8.symm.trans (Int32.toInt_inj.mp (by omega))).trans ey11)) (lv_sub hl [0, 1] rfl)
        · have c13 : ¬ (y7).toInt = (y10).toInt := fun h9 => c13 (hq_eqi.mpr h9)
          refine lv_iconst (v := 0) hx hb dX13_isAsked_38 (by decide) ?_
          have hl20 : (0 : Int32).toInt = 0 := by decide
          exact hp_zret hx hb hr rfl hlocks hZ ⟨rfl, rfl, Or.inr ⟨by omega, fun g9 => by have h8 := (hq_nn (z := i) (by omega)).1; have h9 := ((hu.same hask).mpr g9).2 i.toNatClampNeg (by omega); rw [← ey8, ← ey11] at h9; exact absurd (congrArg Int32.toInt h9) (by omega)⟩⟩ dX13_isAsked_39
  · have c1 : ¬ (m_le).toInt = (m_as).toInt := fun h9 => c1 (hq_eqi.mpr h9)
    refine lv_iconst (v := 0) hx hb dX13_isAsked_11 (by decide) ?_
    have hl21 : (0 : Int32).toInt = 0 := by decide
    exact hp_zret hx hb hr rfl hlocks hZ ⟨rfl, rfl, Or.inr ⟨by omega, fun g9 => by have h9 := congrArg List.length g9; omega⟩⟩ dX13_isAsked_12

set_option maxHeartbeats 4000000 in
set_option maxRecDepth 100000 in
theorem y_attempt (l : Launch) (D : va_G) (cs : Nat → ClassId) (B : Nat) (G : hq_G) (V : hp_V) (n : Nat) (hI : hq_I cs G V) (q : Nat) (mo : Nat) (w : sp_W) (bk : sp_B) (t9 : Nat) (rh : hm_Rh) (m_tp : Int32) (m_sz : Int32) (m_fr : Int32) (m_bh : Int32) (m_hd : Int32) (m_ft : Int32) (m_fa : Int32) (m_le : Int32) (m_fo : Int32) (m_as : Int32) (m_fd : Int32) (m_bc : Int32) (m_bg : Int32) (m_bs : Int32) (m_be : Int32) (m_b0 : Int32) (m_b1 : Int32) (m_cm : Int32) (m_hc : Int32) (v : Int32) (stm : Int32) (edg : Int32) (no0 : Int32) (no1 : Int32) (co : Int32) (cg : Int32) (wf : Nat → Int32) (sf : Nat → Int32) (bf : Nat → Int32) (df : Nat → Int32) (af : Nat → Int32) (ask : List Int) (hc0 : V (mo) = some (.inr (13, hm_o q (m_tp) (m_sz) (m_fr) (m_bh) (m_hd) (m_ft) (m_fa) (m_le) (m_fo) (m_as) (m_fd) (m_bc) (m_bg) (m_bs) (m_be) (m_b0) (m_b1) (m_cm) (m_hc)))) (hc1 : V (q + 21) = some (.inl (cs 0, 276, .inl (wf)))) (hc2 : V (q + 22) = some (.inl (cs 0, 276, .inl (sf)))) (hc3 : V (q + 24) = some (.inl (cs 0, 30, .inl (bf)))) (hc4 : V (q + 23) = some (.inl (cs 3, 60, .inl (df)))) (hc5 : V (q + 37) = some (.inl (cs 0, 4000, .inl (af)))) (hp0 : hm_AR cs V q rh) (hR : hq_RT G q) (hmo : G mo = some (24, 0, 0, 0)) (hmq : mo < q) (hBm : hm_BK rh 0 w bk) (hgd : sp_good w bk) (hgd2 : sp_good2 bk) (hoc : sp_okc w) (ht9 : bk.2.1[v.toNatClampNeg]? = some t9) (hv : 0 ≤ v.toInt) (hask : sp_rp m_as af ask) (has : m_as.toInt ≤ 4000) (hlem : 0 ≤ m_le.toInt ∧ m_le.toInt ≤ 276) (hstma : stm.toInt = -1 ∨ (0 ≤ stm.toInt ∧ stm.toInt < (bk.2.2.2.length : Int))) (hedga : edg.toInt = -1 ∨ (0 ≤ edg.toInt ∧ edg.toInt < (bk.2.2.2.length : Int))) (hstk : ∀ x, 0 ≤ stm.toInt → bk.2.2.2[stm.toInt.toNat]? = some x → x.1 = 0) : hp_M l yX13_attempt cX13_attempt 8 none ({ frames := 4, cells := 0, slots := 0, locals := 95 }) D cs B V n [.ref (mo), .int (v), .int (stm), .int (edg), .int (no0), .int (no1), .int (co), .int (cg)] (hp_QV D cs B (fun V' n' => n = n' ∧ hq_P cs G (fun _ => true) V V' ∧ (∀ x, x ≠ mo → x ≠ q + 21 → x ≠ q + 22 → x ≠ q + 24 → x ≠ q + 23 → V' x = V x) ∧ (∃ m_le1 : Int32, ∃ m_bc1 : Int32, ∃ m_bg1 : Int32, ∃ m_bs1 : Int32, ∃ m_be1 : Int32, ∃ m_b01 : Int32, ∃ m_b11 : Int32, ∃ wf1 : Nat → Int32, ∃ sf1 : Nat → Int32, ∃ bf1 : Nat → Int32, ∃ df1 : Nat → Int32, V' (mo) = some (.inr (13, hm_o q (m_tp) (m_sz) (m_fr) (m_bh) (m_hd) (m_ft) (m_fa) (m_le1) (m_fo) (m_as) (m_fd) (m_bc1) (m_bg1) (m_bs1) (m_be1) (m_b01) (m_b11) (m_cm) (m_hc))) ∧ V' (q + 21) = some (.inl (cs 0, 276, .inl (wf1))) ∧ V' (q + 22) = some (.inl (cs 0, 276, .inl (sf1))) ∧ V' (q + 24) = some (.inl (cs 0, 30, .inl (bf1))) ∧ V' (q + 23) = some (.inl (cs 3, 60, .inl (df1))) ∧ ((sp_y6 m_bc1 m_bg1 m_bs1 m_be1 m_b01 m_b11) = sp_t1 (sp_M w bk.2.2.2 (sp_U w bk (sp_nm w t9)) ask) (sp_y6 m_bc m_bg m_bs m_be m_b0 m_b1) (sp_y6 co cg stm edg no0 no1)) ∧ (0 ≤ m_le1.toInt ∧ m_le1.toInt ≤ 276)))) 0 0 := by
  refine hp_walk (R0 := RX13) (by decide) rfl ?_ (Nat.le_of_ble_eq_true rfl)
  intro p e s m below meth c ls hx hb hr hts hown hlocks hin hml hZ hl
  have hP : hq_P cs G (fun _ => true) V V := hq_P.rf hI
  have hl : lv_has ls 8 [(0, .ref (mo)), (1, .int (v)), (2, .int (stm)), (3, .int (edg)), (4, .int (no0)), (5, .int (no1)), (6, .int (co)), (7, .int (cg))] := hl
  have hb_m_tp := hq_rng m_tp
  have hb_m_sz := hq_rng m_sz
  have hb_m_fr := hq_rng m_fr
  have hb_m_bh := hq_rng m_bh
  have hb_m_hd := hq_rng m_hd
  have hb_m_ft := hq_rng m_ft
  have hb_m_fa := hq_rng m_fa
  have hb_m_le := hq_rng m_le
  have hb_m_fo := hq_rng m_fo
  have hb_m_as := hq_rng m_as
  have hb_m_fd := hq_rng m_fd
  have hb_m_bc := hq_rng m_bc
  have hb_m_bg := hq_rng m_bg
  have hb_m_bs := hq_rng m_bs
  have hb_m_be := hq_rng m_be
  have hb_m_b0 := hq_rng m_b0
  have hb_m_b1 := hq_rng m_b1
  have hb_m_cm := hq_rng m_cm
  have hb_m_hc := hq_rng m_hc
  have hb_v := hq_rng v
  have hb_stm := hq_rng stm
  have hb_edg := hq_rng edg
  have hb_no0 := hq_rng no0
  have hb_no1 := hq_rng no1
  have hb_co := hq_rng co
  have hb_cg := hq_rng cg
  have hH0 : hm_H rh rh := hm_H.rf
  refine lv_iload hx hb dX13_attempt_0 (lv_at hl 7 rfl) ?_
  refine lv_iconst (v := 2) hx hb dX13_attempt_2 (by decide) ?_
  refine lv_icmp_gt (tgt := 33) hx hb dX13_attempt_3 (by decide) (fun c1 => ?_) (fun c1 => ?_)
  · have c1 : (2 : Int) < (cg).toInt := hq_lti.mp c1
    exact hp_vret hx hb hr hlocks hZ ⟨rfl, hP, (fun x8 hne0 hne1 hne2 hne3 hne4 => rfl), m_le, m_bc, m_bg, m_bs, m_be, m_b0, m_b1, wf, sf, bf, df, hc0, hc1, hc2, hc3, hc4, (sp_t1_m (fun g9 => by have h9 : cg.toInt ≤ 2 := g9.1; omega)).symm, by omega⟩ dX13_attempt_33
  · have c1 : ¬ (2 : Int) < (cg).toInt := fun h9 => c1 (hq_lti.mpr h9)
    refine lv_iload hx hb dX13_attempt_6 (lv_at hl 6 rfl) ?_
    refine lv_aload_n hx hb dX13_attempt_8 rfl (lv_at hl 0 rfl) ?_
    refine hp_get (v := .int (m_bc)) hx hb hts hown hZ hc0 fl_X13_413 rfl dX13_attempt_9 ?_
    refine lv_icmp_gt (tgt := 33) hx hb dX13_attempt_12 (by decide) (fun c2 => ?_) (fun c2 => ?_)
    · have c2 : (m_bc).toInt < (co).toInt := hq_lti.mp c2
      exact hp_vret hx hb hr hlocks hZ ⟨rfl, hP, (fun x8 hne0 hne1 hne2 hne3 hne4 => rfl), m_le, m_bc, m_bg, m_bs, m_be, m_b0, m_b1, wf, sf, bf, df, hc0, hc1, hc2, hc3, hc4, (sp_t1_lt (by omega)).symm, by omega⟩ dX13_attempt_33
    · have c2 : ¬ (m_bc).toInt < (co).toInt := fun h9 => c2 (hq_lti.mpr h9)
      refine lv_iload hx hb dX13_attempt_15 (lv_at hl 6 rfl) ?_
      refine lv_aload_n hx hb dX13_attempt_17 rfl (lv_at hl 0 rfl) ?_
      refine hp_get (v := .int (m_bc)) hx hb hts hown hZ hc0 fl_X13_413 rfl dX13_attempt_18 ?_
      refine lv_icmp_ne (tgt := 34) hx hb dX13_attempt_21 (by decide) (fun c3 => ?_) (fun c3 => ?_)
      · have c3 : ¬ (co).toInt = (m_bc).toInt := fun h9 => c3 (hq_eqi.mpr h9)
        refine lv_aload_n hx hb dX13_attempt_34 rfl (lv_at hl 0 rfl) ?_
        refine lv_iload_n hx hb dX13_attempt_35 rfl (lv_at hl 1 rfl) ?_
        refine lv_iload_n hx hb dX13_attempt_36 rfl (lv_at hl 2 rfl) ?_
        refine lv_iload_n hx hb dX13_attempt_37 rfl (lv_at hl 3 rfl) ?_
        refine lv_iload hx hb dX13_attempt_38 (lv_at hl 4 rfl) ?_
        refine lv_iload hx hb dX13_attempt_40 (lv_at hl 5 rfl) ?_
        refine hp_calli (hp_runV (As := [.int (v), .int (stm), .int (edg), .int (no0), .int (no1)]) (rest := []) hx hb hml hown hts (y_make l D cs B G V n hP.1 (q) (mo) (w) (bk) (t9) (rh) (m_tp) (m_sz) (m_fr) (m_bh) (m_hd) (m_ft) (m_fa) (m_le) (m_fo) (m_as) (m_fd) (m_bc) (m_bg) (m_bs) (m_be) (m_b0) (m_b1) (m_cm) (m_hc) (v) (stm) (edg) (no0) (no1) (wf) (sf) (bf) (df)  hc0 hc1 hc2 hc3 hc4 hp0 hR hmo hmq hBm hgd hgd2 hoc ht9 hv hstma hedga hstk) hZ hc0 cv_X13_360 rfl rfl ⟨Nat.le_of_ble_eq_true rfl, Nat.le_of_ble_eq_true rfl⟩ rfl hl.1 rfl (Nat.le_of_ble_eq_true rfl) dX13_attempt_42 ⟨(Nat.le_of_ble_eq_true rfl), (Nat.le_of_ble_eq_true rfl)⟩) hZ (fun r7 V4 n5 _ _ hw6 hZ => ?_)
        obtain ⟨rfl, hq8, fr9, z10, u11, u12, u13, u14, ho15, ho16, ho17, ho18, ho19, hp20, hp21⟩ := hw6
        have b22 := hq_rng z10
        have hP := hP.trans hq8 (fun _ h => Bool.noConfusion h)
        have hf23 := hq_rg20 hP.1 (hr_21 hR) ho16
        have hf24 := hq_rg20 hP.1 (hr_22 hR) ho17
        have hf25 := hq_rg20 hP.1 (hr_24 hR) ho18
        have b26 := hq_rng r7
        have b27 := hp21
        refine lv_if_eq (tgt := 55) hx hb dX13_attempt_45 (by decide) (fun c28 => ?_) (fun c28 => ?_)
        · have c28 : (r7).toInt = (0 : Int) := hq_eqi.mp c28
          have hmk0 := (show ∀ u1, sp_sa w no0.toInt no1.toInt bk.2.2.2 0 (sp_U w bk (sp_nm w t9) stm.toInt edg.toInt) = some u1 → u1.length = 0 by rcases hp20 with g9 | g9; (· omega); (· exact g9.2))
          exact hp_vret hx hb hr hlocks hZ ⟨rfl, hP, (fun x8 hne0 hne1 hne2 hne3 hne4 => fr9 x8 hne0 hne1 hne2 hne3 hne4), z10, m_bc, m_bg, m_bs, m_be, m_b0, m_b1, u11, u12, u13, u14, ho15, ho16, ho17, ho18, ho19, (sp_t1_m (fun g9 => by have h9 := hmk0 _ g9.2.1; have h8 := g9.2.2; omega)).symm, by omega⟩ dX13_attempt_55
        · have c28 : ¬ (r7).toInt = (0 : Int) := fun h9 => c28 (hq_eqi.mpr h9)
          obtain ⟨u1, hsa, hpos, hrp⟩ := (show ∃ u1, sp_sa w no0.toInt no1.toInt bk.2.2.2 0 (sp_U w bk (sp_nm w t9) stm.toInt edg.toInt) = some u1 ∧ 0 < u1.length ∧ sp_rp z10 u11 u1 by rcases hp20 with g9 | g9; (· exact g9.2); (· omega))
          refine lv_aload_n hx hb dX13_attempt_48 rfl (lv_at hl 0 rfl) ?_
          have fx29 : V4 (q + 37) = some (.inl (cs 0, 4000, .inl (af))) := (fr9 (q + 37) (hq_tne (hr_37 hR) hmo (by simp)) (hq_tne (hr_37 hR) (hr_21 hR) (by simp)) (hq_tne (hr_37 hR) (hr_22 hR) (by simp)) (hq_tne (hr_37 hR) (hr_24 hR) (by simp)) (hq_tne (hr_37 hR) (hr_23 hR) (by simp))).trans (hc5)
          refine hp_calli (hp_runV (As := []) (rest := []) hx hb hml hown hts (y_isAsked l D cs B G V4 n hP.1 (q) (mo) (m_tp) (m_sz) (m_fr) (m_bh) (m_hd) (m_ft) (m_fa) (z10) (m_fo) (m_as) (m_fd) (m_bc) (m_bg) (m_bs) (m_be) (m_b0) (m_b1) (m_cm) (m_hc) (u11) (af) (u1) (ask)  ho15 ho16 fx29  hR hmo hrp hask (by omega) (by omega)) hZ ho15 cv_X13_419 rfl rfl ⟨Nat.le_of_ble_eq_true rfl, Nat.le_of_ble_eq_true rfl⟩ rfl hl.1 rfl (Nat.le_of_ble_eq_true rfl) dX13_attempt_49 ⟨(Nat.le_of_ble_eq_true rfl), (Nat.le_of_ble_eq_true rfl)⟩) hZ (fun r33 V30 n31 _ _ hw32 hZ => ?_)
          obtain ⟨rfl, rfl, hp36⟩ := hw32
          have b37 := hq_rng r33
          refine lv_if_ne (tgt := 56) hx hb dX13_attempt_52 (by decide) (fun c38 => ?_) (fun c38 => ?_)
          · have c38 : ¬ (r33).toInt = (0 : Int) := fun h9 => c38 (hq_eqi.mpr h9)
            have hua : u1 = ask := by rcases hp36 with g9 | g9; (· exact g9.2); (· omega)
            rw [hua] at hsa hpos
            refine lv_aload_n hx hb dX13_attempt_56 rfl (lv_at hl 0 rfl) ?_
            refine lv_iload hx hb dX13_attempt_57 (lv_at hl 6 rfl) ?_
            refine hp_put hx hb hts hown hZ ho15 fp_X13_413 rfl rfl (Nat.le_of_ble_eq_true rfl) dX13_attempt_59 (fun V39 _ _ e40 o41 hZ => ?_)
            have e40 : V39 (mo) = some (.inr (13, hm_o q (m_tp) (m_sz) (m_fr) (m_bh) (m_hd) (m_ft) (m_fa) (z10) (m_fo) (m_as) (m_fd) (co) (m_bg) (m_bs) (m_be) (m_b0) (m_b1) (m_cm) (m_hc))) := e40
            have hP := hP.put hmo e40 o41 (trivial) rfl
            refine lv_aload_n hx hb dX13_attempt_62 rfl (lv_at hl 0 rfl) ?_
            refine lv_iload hx hb dX13_attempt_63 (lv_at hl 7 rfl) ?_
            refine hp_put hx hb hts hown hZ e40 fp_X13_416 rfl rfl (Nat.le_of_ble_eq_true rfl) dX13_attempt_65 (fun V42 _ _ e43 o44 hZ => ?_)
            have e43 : V42 (mo) = some (.inr (13, hm_o q (m_tp) (m_sz) (m_fr) (m_bh) (m_hd) (m_ft) (m_fa) (z10) (m_fo) (m_as) (m_fd) (co) (cg) (m_bs) (m_be) (m_b0) (m_b1) (m_cm) (m_hc))) := e43
            have hP := hP.put hmo e43 o44 (trivial) rfl
            refine lv_aload_n hx hb dX13_attempt_68 rfl (lv_at hl 0 rfl) ?_
            refine lv_iload_n hx hb dX13_attempt_69 rfl (lv_at hl 2 rfl) ?_
            refine hp_put hx hb hts hown hZ e43 fp_X13_422 rfl rfl (Nat.le_of_ble_eq_true rfl) dX13_attempt_70 (fun V45 _ _ e46 o47 hZ => ?_)
            have e46 : V45 (mo) = some (.inr (13, hm_o q (m_tp) (m_sz) (m_fr) (m_bh) (m_hd) (m_ft) (m_fa) (z10) (m_fo) (m_as) (m_fd) (co) (cg) (stm) (m_be) (m_b0) (m_b1) (m_cm) (m_hc))) := e46
            have hP := hP.put hmo e46 o47 (trivial) rfl
            refine lv_aload_n hx hb dX13_attempt_73 rfl (lv_at hl 0 rfl) ?_
            refine lv_iload_n hx hb dX13_attempt_74 rfl (lv_at hl 3 rfl) ?_
            refine hp_put hx hb hts hown hZ e46 fp_X13_425 rfl rfl (Nat.le_of_ble_eq_true rfl) dX13_attempt_75 (fun V48 _ _ e49 o50 hZ => ?_)
            have e49 : V48 (mo) = some (.inr (13, hm_o q (m_tp) (m_sz) (m_fr) (m_bh) (m_hd) (m_ft) (m_fa) (z10) (m_fo) (m_as) (m_fd) (co) (cg) (stm) (edg) (m_b0) (m_b1) (m_cm) (m_hc))) := e49
            have hP := hP.put hmo e49 o50 (trivial) rfl
            refine lv_aload_n hx hb dX13_attempt_78 rfl (lv_at hl 0 rfl) ?_
            refine lv_iload hx hb dX13_attempt_79 (lv_at hl 4 rfl) ?_
            refine hp_put hx hb hts hown hZ e49 fp_X13_428 rfl rfl (Nat.le_of_ble_eq_true rfl) dX13_attempt_81 (fun V51 _ _ e52 o53 hZ => ?_)
            have e52 : V51 (mo) = some (.inr (13, hm_o q (m_tp) (m_sz) (m_fr) (m_bh) (m_hd) (m_ft) (m_fa) (z10) (m_fo) (m_as) (m_fd) (co) (cg) (stm) (edg) (no0) (m_b1) (m_cm) (m_hc))) := e52
            have hP := hP.put hmo e52 o53 (trivial) rfl
            refine lv_aload_n hx hb dX13_attempt_84 rfl (lv_at hl 0 rfl) ?_
            refine lv_iload hx hb dX13_attempt_85 (lv_at hl 5 rfl) ?_
            refine hp_put hx hb hts hown hZ e52 fp_X13_431 rfl rfl (Nat.le_of_ble_eq_true rfl) dX13_attempt_87 (fun V54 _ _ e55 o56 hZ => ?_)
            have e55 : V54 (mo) = some (.inr (13, hm_o q (m_tp) (m_sz) (m_fr) (m_bh) (m_hd) (m_ft) (m_fa) (z10) (m_fo) (m_as) (m_fd) (co) (cg) (stm) (edg) (no0) (no1) (m_cm) (m_hc))) := e55
            have hP := hP.put hmo e55 o56 (trivial) rfl
            have fx57 : V54 (q + 21) = some (.inl (cs 0, 276, .inl (u11))) := (o56 (q + 21) (hq_tne (hr_21 hR) hmo (by simp))).trans ((o53 (q + 21) (hq_tne (hr_21 hR) hmo (by simp))).trans ((o50 (q + 21) (hq_tne (hr_21 hR) hmo (by simp))).trans ((o47 (q + 21) (hq_tne (hr_21 hR) hmo (by simp))).trans ((o44 (q + 21) (hq_tne (hr_21 hR) hmo (by simp))).trans ((o41 (q + 21) (hq_tne (hr_21 hR) hmo (by simp))).trans (ho16))))))
            have fx58 : V54 (q + 22) = some (.inl (cs 0, 276, .inl (u12))) := (o56 (q + 22) (hq_tne (hr_22 hR) hmo (by simp))).trans ((o53 (q + 22) (hq_tne (hr_22 hR) hmo (by simp))).trans ((o50 (q + 22) (hq_tne (hr_22 hR) hmo (by simp))).trans ((o47 (q + 22) (hq_tne (hr_22 hR) hmo (by simp))).trans ((o44 (q + 22) (hq_tne (hr_22 hR) hmo (by simp))).trans ((o41 (q + 22) (hq_tne (hr_22 hR) hmo (by simp))).trans (ho17))))))
            have fx59 : V54 (q + 24) = some (.inl (cs 0, 30, .inl (u13))) := (o56 (q + 24) (hq_tne (hr_24 hR) hmo (by simp))).trans ((o53 (q + 24) (hq_tne (hr_24 hR) hmo (by simp))).trans ((o50 (q + 24) (hq_tne (hr_24 hR) hmo (by simp))).trans ((o47 (q + 24) (hq_tne (hr_24 hR) hmo (by simp))).trans ((o44 (q + 24) (hq_tne (hr_24 hR) hmo (by simp))).trans ((o41 (q + 24) (hq_tne (hr_24 hR) hmo (by simp))).trans (ho18))))))
            have fx60 : V54 (q + 23) = some (.inl (cs 3, 60, .inl (u14))) := (o56 (q + 23) (hq_tne (hr_23 hR) hmo (by simp))).trans ((o53 (q + 23) (hq_tne (hr_23 hR) hmo (by simp))).trans ((o50 (q + 23) (hq_tne (hr_23 hR) hmo (by simp))).trans ((o47 (q + 23) (hq_tne (hr_23 hR) hmo (by simp))).trans ((o44 (q + 23) (hq_tne (hr_23 hR) hmo (by simp))).trans ((o41 (q + 23) (hq_tne (hr_23 hR) hmo (by simp))).trans (ho19))))))
            exact hp_vret hx hb hr hlocks hZ ⟨rfl, hP, (fun x8 hne0 hne1 hne2 hne3 hne4 => (o56 x8 hne0).trans ((o53 x8 hne0).trans ((o50 x8 hne0).trans ((o47 x8 hne0).trans ((o44 x8 hne0).trans ((o41 x8 hne0).trans (fr9 x8 hne0 hne1 hne2 hne3 hne4))))))), z10, co, cg, stm, edg, no0, no1, u11, u12, u13, u14, e55, fx57, fx58, fx59, fx60, (sp_t1_k ⟨(show cg.toInt ≤ 2 by omega), hsa, hpos⟩ (by omega)).symm, by omega⟩ dX13_attempt_90
          · have c38 : (r33).toInt = (0 : Int) := hq_eqi.mp c38
            have hna : ¬ u1 = ask := by rcases hp36 with g9 | g9; (· omega); (· exact g9.2)
            exact hp_vret hx hb hr hlocks hZ ⟨rfl, hP, (fun x8 hne0 hne1 hne2 hne3 hne4 => fr9 x8 hne0 hne1 hne2 hne3 hne4), z10, m_bc, m_bg, m_bs, m_be, m_b0, m_b1, u11, u12, u13, u14, ho15, ho16, ho17, ho18, ho19, (sp_t1_m (fun g9 => hna (Option.some.inj (hsa.symm.trans g9.2.1)))).symm, by omega⟩ dX13_attempt_55
      · have c3 : (co).toInt = (m_bc).toInt := hq_eqi.mp c3
        refine lv_iload hx hb dX13_attempt_24 (lv_at hl 7 rfl) ?_
        refine lv_aload_n hx hb dX13_attempt_26 rfl (lv_at hl 0 rfl) ?_
        refine hp_get (v := .int (m_bg)) hx hb hts hown hZ hc0 fl_X13_416 rfl dX13_attempt_27 ?_
        refine lv_icmp_lt (tgt := 34) hx hb dX13_attempt_30 (by decide) (fun c61 => ?_) (fun c61 => ?_)
        · have c61 : (cg).toInt < (m_bg).toInt := hq_lti.mp c61
          refine lv_aload_n hx hb dX13_attempt_34 rfl (lv_at hl 0 rfl) ?_
          refine lv_iload_n hx hb dX13_attempt_35 rfl (lv_at hl 1 rfl) ?_
          refine lv_iload_n hx hb dX13_attempt_36 rfl (lv_at hl 2 rfl) ?_
          refine lv_iload_n hx hb dX13_attempt_37 rfl (lv_at hl 3 rfl) ?_
          refine lv_iload hx hb dX13_attempt_38 (lv_at hl 4 rfl) ?_
          refine lv_iload hx hb dX13_attempt_40 (lv_at hl 5 rfl) ?_
          refine hp_calli (hp_runV (As := [.int (v), .int (stm), .int (edg), .int (no0), .int (no1)]) (rest := []) hx hb hml hown hts (y_make l D cs B G V n hP.1 (q) (mo) (w) (bk) (t9) (rh) (m_tp) (m_sz) (m_fr) (m_bh) (m_hd) (m_ft) (m_fa) (m_le) (m_fo) (m_as) (m_fd) (m_bc) (m_bg) (m_bs) (m_be) (m_b0) (m_b1) (m_cm) (m_hc) (v) (stm) (edg) (no0) (no1) (wf) (sf) (bf) (df)  hc0 hc1 hc2 hc3 hc4 hp0 hR hmo hmq hBm hgd hgd2 hoc ht9 hv hstma hedga hstk) hZ hc0 cv_X13_360 rfl rfl ⟨Nat.le_of_ble_eq_true rfl, Nat.le_of_ble_eq_true rfl⟩ rfl hl.1 rfl (Nat.le_of_ble_eq_true rfl) dX13_attempt_42 ⟨(Nat.le_of_ble_eq_true rfl), (Nat.le_of_ble_eq_true rfl)⟩) hZ (fun r65 V62 n63 _ _ hw64 hZ => ?_)
          obtain ⟨rfl, hq66, fr67, z68, u69, u70, u71, u72, ho73, ho74, ho75, ho76, ho77, hp78, hp79⟩ := hw64
          have b80 := hq_rng z68
          have hP := hP.trans hq66 (fun _ h => Bool.noConfusion h)
          have hf81 := hq_rg20 hP.1 (hr_21 hR) ho74
          have hf82 := hq_rg20 hP.1 (hr_22 hR) ho75
          have hf83 := hq_rg20 hP.1 (hr_24 hR) ho76
          have b84 := hq_rng r65
          have b85 := hp79
          refine lv_if_eq (tgt := 55) hx hb dX13_attempt_45 (by decide) (fun c86 => ?_) (fun c86 => ?_)
          · have c86 : (r65).toInt = (0 : Int) := hq_eqi.mp c86
            have hmk0 := (show ∀ u1, sp_sa w no0.toInt no1.toInt bk.2.2.2 0 (sp_U w bk (sp_nm w t9) stm.toInt edg.toInt) = some u1 → u1.length = 0 by rcases hp78 with g9 | g9; (· omega); (· exact g9.2))
            exact hp_vret hx hb hr hlocks hZ ⟨rfl, hP, (fun x8 hne0 hne1 hne2 hne3 hne4 => fr67 x8 hne0 hne1 hne2 hne3 hne4), z68, m_bc, m_bg, m_bs, m_be, m_b0, m_b1, u69, u70, u71, u72, ho73, ho74, ho75, ho76, ho77, (sp_t1_m (fun g9 => by have h9 := hmk0 _ g9.2.1; have h8 := g9.2.2; omega)).symm, by omega⟩ dX13_attempt_55
          · have c86 : ¬ (r65).toInt = (0 : Int) := fun h9 => c86 (hq_eqi.mpr h9)
            obtain ⟨u1, hsa, hpos, hrp⟩ := (show ∃ u1, sp_sa w no0.toInt no1.toInt bk.2.2.2 0 (sp_U w bk (sp_nm w t9) stm.toInt edg.toInt) = some u1 ∧ 0 < u1.length ∧ sp_rp z68 u69 u1 by rcases hp78 with g9 | g9; (· exact g9.2); (· omega))
            refine lv_aload_n hx hb dX13_attempt_48 rfl (lv_at hl 0 rfl) ?_
            have fx87 : V62 (q + 37) = some (.inl (cs 0, 4000, .inl (af))) := (fr67 (q + 37) (hq_tne (hr_37 hR) hmo (by simp)) (hq_tne (hr_37 hR) (hr_21 hR) (by simp)) (hq_tne (hr_37 hR) (hr_22 hR) (by simp)) (hq_tne (hr_37 hR) (hr_24 hR) (by simp)) (hq_tne (hr_37 hR) (hr_23 hR) (by simp))).trans (hc5)
            refine hp_calli (hp_runV (As := []) (rest := []) hx hb hml hown hts (y_isAsked l D cs B G V62 n hP.1 (q) (mo) (m_tp) (m_sz) (m_fr) (m_bh) (m_hd) (m_ft) (m_fa) (z68) (m_fo) (m_as) (m_fd) (m_bc) (m_bg) (m_bs) (m_be) (m_b0) (m_b1) (m_cm) (m_hc) (u69) (af) (u1) (ask)  ho73 ho74 fx87  hR hmo hrp hask (by omega) (by omega)) hZ ho73 cv_X13_419 rfl rfl ⟨Nat.le_of_ble_eq_true rfl, Nat.le_of_ble_eq_true rfl⟩ rfl hl.1 rfl (Nat.le_of_ble_eq_true rfl) dX13_attempt_49 ⟨(Nat.le_of_ble_eq_true rfl), (Nat.le_of_ble_eq_true rfl)⟩) hZ (fun r91 V88 n89 _ _ hw90 hZ => ?_)
            obtain ⟨rfl, rfl, hp94⟩ := hw90
            have b95 := hq_rng r91
            refine lv_if_ne (tgt := 56) hx hb dX13_attempt_52 (by decide) (fun c96 => ?_) (fun c96 => ?_)
            · have c96 : ¬ (r91).toInt = (0 : Int) := fun h9 => c96 (hq_eqi.mpr h9)
              have hua : u1 = ask := by rcases hp94 with g9 | g9; (· exact g9.2); (· omega)
              rw [hua] at hsa hpos
              refine lv_aload_n hx hb dX13_attempt_56 rfl (lv_at hl 0 rfl) ?_
              refine lv_iload hx hb dX13_attempt_57 (lv_at hl 6 rfl) ?_
              refine hp_put hx hb hts hown hZ ho73 fp_X13_413 rfl rfl (Nat.le_of_ble_eq_true rfl) dX13_attempt_59 (fun V97 _ _ e98 o99 hZ => ?_)
              have e98 : V97 (mo) = some (.inr (13, hm_o q (m_tp) (m_sz) (m_fr) (m_bh) (m_hd) (m_ft) (m_fa) (z68) (m_fo) (m_as) (m_fd) (co) (m_bg) (m_bs) (m_be) (m_b0) (m_b1) (m_cm) (m_hc))) := e98
              have hP := hP.put hmo e98 o99 (trivial) rfl
              refine lv_aload_n hx hb dX13_attempt_62 rfl (lv_at hl 0 rfl) ?_
              refine lv_iload hx hb dX13_attempt_63 (lv_at hl 7 rfl) ?_
              refine hp_put hx hb hts hown hZ e98 fp_X13_416 rfl rfl (Nat.le_of_ble_eq_true rfl) dX13_attempt_65 (fun V100 _ _ e101 o102 hZ => ?_)
              have e101 : V100 (mo) = some (.inr (13, hm_o q (m_tp) (m_sz) (m_fr) (m_bh) (m_hd) (m_ft) (m_fa) (z68) (m_fo) (m_as) (m_fd) (co) (cg) (m_bs) (m_be) (m_b0) (m_b1) (m_cm) (m_hc))) := e101
              have hP := hP.put hmo e101 o102 (trivial) rfl
              refine lv_aload_n hx hb dX13_attempt_68 rfl (lv_at hl 0 rfl) ?_
              refine lv_iload_n hx hb dX13_attempt_69 rfl (lv_at hl 2 rfl) ?_
              refine hp_put hx hb hts hown hZ e101 fp_X13_422 rfl rfl (Nat.le_of_ble_eq_true rfl) dX13_attempt_70 (fun V103 _ _ e104 o105 hZ => ?_)
              have e104 : V103 (mo) = some (.inr (13, hm_o q (m_tp) (m_sz) (m_fr) (m_bh) (m_hd) (m_ft) (m_fa) (z68) (m_fo) (m_as) (m_fd) (co) (cg) (stm) (m_be) (m_b0) (m_b1) (m_cm) (m_hc))) := e104
              have hP := hP.put hmo e104 o105 (trivial) rfl
              refine lv_aload_n hx hb dX13_attempt_73 rfl (lv_at hl 0 rfl) ?_
              refine lv_iload_n hx hb dX13_attempt_74 rfl (lv_at hl 3 rfl) ?_
              refine hp_put hx hb hts hown hZ e104 fp_X13_425 rfl rfl (Nat.le_of_ble_eq_true rfl) dX13_attempt_75 (fun V106 _ _ e107 o108 hZ => ?_)
              have e107 : V106 (mo) = some (.inr (13, hm_o q (m_tp) (m_sz) (m_fr) (m_bh) (m_hd) (m_ft) (m_fa) (z68) (m_fo) (m_as) (m_fd) (co) (cg) (stm) (edg) (m_b0) (m_b1) (m_cm) (m_hc))) := e107
              have hP := hP.put hmo e107 o108 (trivial) rfl
              refine lv_aload_n hx hb dX13_attempt_78 rfl (lv_at hl 0 rfl) ?_
              refine lv_iload hx hb dX13_attempt_79 (lv_at hl 4 rfl) ?_
              refine hp_put hx hb hts hown hZ e107 fp_X13_428 rfl rfl (Nat.le_of_ble_eq_true rfl) dX13_attempt_81 (fun V109 _ _ e110 o111 hZ => ?_)
              have e110 : V109 (mo) = some (.inr (13, hm_o q (m_tp) (m_sz) (m_fr) (m_bh) (m_hd) (m_ft) (m_fa) (z68) (m_fo) (m_as) (m_fd) (co) (cg) (stm) (edg) (no0) (m_b1) (m_cm) (m_hc))) := e110
              have hP := hP.put hmo e110 o111 (trivial) rfl
              refine lv_aload_n hx hb dX13_attempt_84 rfl (lv_at hl 0 rfl) ?_
              refine lv_iload hx hb dX13_attempt_85 (lv_at hl 5 rfl) ?_
              refine hp_put hx hb hts hown hZ e110 fp_X13_431 rfl rfl (Nat.le_of_ble_eq_true rfl) dX13_attempt_87 (fun V112 _ _ e113 o114 hZ => ?_)
              have e113 : V112 (mo) = some (.inr (13, hm_o q (m_tp) (m_sz) (m_fr) (m_bh) (m_hd) (m_ft) (m_fa) (z68) (m_fo) (m_as) (m_fd) (co) (cg) (stm) (edg) (no0) (no1) (m_cm) (m_hc))) := e113
              have hP := hP.put hmo e113 o114 (trivial) rfl
              have fx115 : V112 (q + 21) = some (.inl (cs 0, 276, .inl (u69))) := (o114 (q + 21) (hq_tne (hr_21 hR) hmo (by simp))).trans ((o111 (q + 21) (hq_tne (hr_21 hR) hmo (by simp))).trans ((o108 (q + 21) (hq_tne (hr_21 hR) hmo (by simp))).trans ((o105 (q + 21) (hq_tne (hr_21 hR) hmo (by simp))).trans ((o102 (q + 21) (hq_tne (hr_21 hR) hmo (by simp))).trans ((o99 (q + 21) (hq_tne (hr_21 hR) hmo (by simp))).trans (ho74))))))
              have fx116 : V112 (q + 22) = some (.inl (cs 0, 276, .inl (u70))) := (o114 (q + 22) (hq_tne (hr_22 hR) hmo (by simp))).trans ((o111 (q + 22) (hq_tne (hr_22 hR) hmo (by simp))).trans ((o108 (q + 22) (hq_tne (hr_22 hR) hmo (by simp))).trans ((o105 (q + 22) (hq_tne (hr_22 hR) hmo (by simp))).trans ((o102 (q + 22) (hq_tne (hr_22 hR) hmo (by simp))).trans ((o99 (q + 22) (hq_tne (hr_22 hR) hmo (by simp))).trans (ho75))))))
              have fx117 : V112 (q + 24) = some (.inl (cs 0, 30, .inl (u71))) := (o114 (q + 24) (hq_tne (hr_24 hR) hmo (by simp))).trans ((o111 (q + 24) (hq_tne (hr_24 hR) hmo (by simp))).trans ((o108 (q + 24) (hq_tne (hr_24 hR) hmo (by simp))).trans ((o105 (q + 24) (hq_tne (hr_24 hR) hmo (by simp))).trans ((o102 (q + 24) (hq_tne (hr_24 hR) hmo (by simp))).trans ((o99 (q + 24) (hq_tne (hr_24 hR) hmo (by simp))).trans (ho76))))))
              have fx118 : V112 (q + 23) = some (.inl (cs 3, 60, .inl (u72))) := (o114 (q + 23) (hq_tne (hr_23 hR) hmo (by simp))).trans ((o111 (q + 23) (hq_tne (hr_23 hR) hmo (by simp))).trans ((o108 (q + 23) (hq_tne (hr_23 hR) hmo (by simp))).trans ((o105 (q + 23) (hq_tne (hr_23 hR) hmo (by simp))).trans ((o102 (q + 23) (hq_tne (hr_23 hR) hmo (by simp))).trans ((o99 (q + 23) (hq_tne (hr_23 hR) hmo (by simp))).trans (ho77))))))
              exact hp_vret hx hb hr hlocks hZ ⟨rfl, hP, (fun x8 hne0 hne1 hne2 hne3 hne4 => (o114 x8 hne0).trans ((o111 x8 hne0).trans ((o108 x8 hne0).trans ((o105 x8 hne0).trans ((o102 x8 hne0).trans ((o99 x8 hne0).trans (fr67 x8 hne0 hne1 hne2 hne3 hne4))))))), z68, co, cg, stm, edg, no0, no1, u69, u70, u71, u72, e113, fx115, fx116, fx117, fx118, (sp_t1_k ⟨(show cg.toInt ≤ 2 by omega), hsa, hpos⟩ (by omega)).symm, by omega⟩ dX13_attempt_90
            · have c96 : (r91).toInt = (0 : Int) := hq_eqi.mp c96
              have hna : ¬ u1 = ask := by rcases hp94 with g9 | g9; (· omega); (· exact g9.2)
              exact hp_vret hx hb hr hlocks hZ ⟨rfl, hP, (fun x8 hne0 hne1 hne2 hne3 hne4 => fr67 x8 hne0 hne1 hne2 hne3 hne4), z68, m_bc, m_bg, m_bs, m_be, m_b0, m_b1, u69, u70, u71, u72, ho73, ho74, ho75, ho76, ho77, (sp_t1_m (fun g9 => hna (Option.some.inj (hsa.symm.trans g9.2.1)))).symm, by omega⟩ dX13_attempt_55
        · have c61 : ¬ (cg).toInt < (m_bg).toInt := fun h9 => c61 (hq_lti.mpr h9)
          exact hp_vret hx hb hr hlocks hZ ⟨rfl, hP, (fun x8 hne0 hne1 hne2 hne3 hne4 => rfl), m_le, m_bc, m_bg, m_bs, m_be, m_b0, m_b1, wf, sf, bf, df, hc0, hc1, hc2, hc3, hc4, (sp_t1_lt (by omega)).symm, by omega⟩ dX13_attempt_33

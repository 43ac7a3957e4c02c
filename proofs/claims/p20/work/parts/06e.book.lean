theorem hm_B.zero {fk fs : Nat → Int32} {i : Int} (h : i ≤ 0) : hm_B fk fs fk fs i := ⟨fun _ _ => ⟨rfl, rfl⟩, fun j hj => absurd hj (by omega)⟩

set_option maxHeartbeats 4000000 in
set_option maxRecDepth 100000 in
theorem t_X13_readBook (l : Launch) (D : va_G) (cs : Nat → ClassId) (B : Nat) (G : hq_G) (V : hp_V) (n : Nat) (hI : hq_I cs G V) (q : Nat) (hR : hq_RT G q) (mo : Nat) (h_mo : G mo = some (24, 0, 0, 0)) {m_tp m_sz m_fr m_bh m_hd m_ft m_fa m_le m_fo m_as m_fd m_bc m_bg m_bs m_be m_b0 m_b1 m_cm m_hc : Int32} (ho_mo : V mo = some (.inr (13, hm_o q (m_tp) (m_sz) (m_fr) (m_bh) (m_hd) (m_ft) (m_fa) (m_le) (m_fo) (m_as) (m_fd) (m_bc) (m_bg) (m_bs) (m_be) (m_b0) (m_b1) (m_cm) (m_hc)))) (hi_mo0 : 0 ≤ m_tp.toInt ∧ m_tp.toInt ≤ 4000) (hi_mo1 : 0 ≤ m_sz.toInt ∧ m_sz.toInt ≤ 4000) (hi_mo2 : 0 ≤ m_le.toInt ∧ m_le.toInt ≤ 276) (hi_mo3 : 0 ≤ m_fo.toInt ∧ m_fo.toInt ≤ 4) (hi_mo4 : 0 ≤ m_as.toInt ∧ m_as.toInt ≤ 4000) (hi_mo5 : 0 ≤ m_fd.toInt ∧ m_fd.toInt ≤ 900) (hi_mo6 : 0 ≤ m_cm.toInt ∧ m_cm.toInt ≤ 2) (hi_mo7 : 0 ≤ m_hc.toInt ∧ m_hc.toInt ≤ 1) : hq_M l yX13_readBook cX13_readBook 1 none ({ frames := 12, cells := 0, slots := 0, locals := 256 }) D cs B V n [.ref (mo)] (hq_QX D cs B (fun v V' n' => v = none ∧ n = n' ∧ hq_P cs G (fun g => g.1 == 1 || g.1 == 41 || g.1 == 50) V V' ∧ (∃ (m_fr1 : Int32) (m_bh1 : Int32) (m_hd1 : Int32) (m_ft1 : Int32) (m_fa1 : Int32), V' mo = some (.inr (13, hm_o q (m_tp) (m_sz) (m_fr1) (m_bh1) (m_hd1) (m_ft1) (m_fa1) (m_le) (m_fo) (m_as) (m_fd) (m_bc) (m_bg) (m_bs) (m_be) (m_b0) (m_b1) (m_cm) (m_hc)))) ∧ (hm_JH cs V V' q ∧ hm_VQ cs V' q 60 1)) (fun x V' n' => x = q + 19 ∧ n = n' ∧ hq_P cs G (fun g => g.1 == 1 || g.1 == 41 || g.1 == 50) V V' ∧ (∃ (m_fr1 : Int32) (m_bh1 : Int32) (m_hd1 : Int32) (m_ft1 : Int32) (m_fa1 : Int32), V' mo = some (.inr (13, hm_o q (m_tp) (m_sz) (m_fr1) (m_bh1) (m_hd1) (m_ft1) (m_fa1) (m_le) (m_fo) (m_as) (m_fd) (m_bc) (m_bg) (m_bs) (m_be) (m_b0) (m_b1) (m_cm) (m_hc)))) ∧ hm_JH cs V V' q)) 0 0 := by
  refine hq_walk (R0 := RX13) (by decide) rfl ?_ (Nat.le_of_ble_eq_true rfl)
  intro p e s m below meth c ls hx hb hr hts hown hlocks hin hml hnx hZ hl
  have hP : hq_P cs G (fun g => g.1 == 1 || g.1 == 41 || g.1 == 50) V V := hq_P.rf hI
  have hl : lv_has ls 1 [(0, .ref (mo))] := hl
  have hb_m_tp := hq_rng m_tp
  have hb_m_sz := hq_rng m_sz
  have hb_m_fr := hq_rng m_fr
  have hb_m_bh := hq_rng m_bh
  have hb_m_hd := hq_rng m_hd
  have hb_m_ft := hq_rng m_ft
  have hb_m_fa := hq_rng m_fa
  have hb_m_le := hq_rng m_le
  have hb_m_fo := hq_rng m_fo
  have hb_m_as := hq_rng m_as
  have hb_m_fd := hq_rng m_fd
  have hb_m_bc := hq_rng m_bc
  have hb_m_bg := hq_rng m_bg
  have hb_m_bs := hq_rng m_bs
  have hb_m_be := hq_rng m_be
  have hb_m_b0 := hq_rng m_b0
  have hb_m_b1 := hq_rng m_b1
  have hb_m_cm := hq_rng m_cm
  have hb_m_hc := hq_rng m_hc
  obtain ⟨hN3, g2, eV1, hf4⟩ := hq_o21 hP.1 (hr_10 hR)
  obtain ⟨hN7, g6, eV5, hf8⟩ := hq_o21 hP.1 (hr_14 hR)
  obtain ⟨hN11, g10, eV9, hf12⟩ := hq_o21 hP.1 (hr_2 hR)
  refine lv_aload_n hx hb dX13_readBook_0 rfl (lv_at hl 0 rfl) ?_
  refine hp_get (v := .ref (q)) hx hb hts hown hZ ho_mo fl_X13_1 rfl dX13_readBook_1 ?_
  refine lv_iconst (v := 1) hx hb dX13_readBook_4 (by decide) ?_
  refine lv_iconst (v := 0) hx hb dX13_readBook_5 (by decide) ?_
  obtain ⟨hN15, g14, eV13, hf16⟩ := hq_o21 hP.1 (hr_0 hR)
  refine hp_iast hx hb hZ eV13 (by unfold vp_in; decide) dX13_readBook_6 (fun V17 _ _ e18 o19 hZ => ?_)
  have e18 : V17 (q) = some (.inl (cs 1, 2, .inl (upd (g14) ((1 : Int32).toNatClampNeg) (0)))) := e18
  have hl20 : (0 : Int32).toInt = 0 := by decide
  have hP := hP.put (hr_0 hR) e18 o19 (hq_c21 (by omega) (hq_upd hf16 (show 0 ≤ _ ∧ _ ≤ 6 by constructor <;> omega))) rfl
  refine lv_aload_n hx hb dX13_readBook_7 rfl (lv_at hl 0 rfl) ?_
  have fx21 : V17 (mo) = some (.inr (13, hm_o q (m_tp) (m_sz) (m_fr) (m_bh) (m_hd) (m_ft) (m_fa) (m_le) (m_fo) (m_as) (m_fd) (m_bc) (m_bg) (m_bs) (m_be) (m_b0) (m_b1) (m_cm) (m_hc))) := (o19 (mo) (hq_tne h_mo (hr_0 hR) (by simp))).trans (ho_mo)
  refine hp_get (v := .ref (q + 1)) hx hb hts hown hZ fx21 fl_X13_7 rfl dX13_readBook_8 ?_
  refine lv_iconst (v := 1) hx hb dX13_readBook_11 (by decide) ?_
  refine lv_iconst (v := 0) hx hb dX13_readBook_12 (by decide) ?_
  obtain ⟨hN24, g23, eV22, hf25⟩ := hq_o21 hP.1 (hr_1 hR)
  refine hp_iast hx hb hZ eV22 (by unfold vp_in; decide) dX13_readBook_13 (fun V26 _ _ e27 o28 hZ => ?_)
  have e27 : V26 (q + 1) = some (.inl (cs 1, 2, .inl (upd (g23) ((1 : Int32).toNatClampNeg) (0)))) := e27
  have hl29 : (0 : Int32).toInt = 0 := by decide
  have hP := hP.put (hr_1 hR) e27 o28 (hq_c21 (by omega) (hq_upd hf25 (show 0 ≤ _ ∧ _ ≤ 30 by constructor <;> omega))) rfl
  refine lv_aload_n hx hb dX13_readBook_14 rfl (lv_at hl 0 rfl) ?_
  have fx30 : V26 (mo) = some (.inr (13, hm_o q (m_tp) (m_sz) (m_fr) (m_bh) (m_hd) (m_ft) (m_fa) (m_le) (m_fo) (m_as) (m_fd) (m_bc) (m_bg) (m_bs) (m_be) (m_b0) (m_b1) (m_cm) (m_hc))) := (o28 (mo) (hq_tne h_mo (hr_1 hR) (by simp))).trans (fx21)
  refine hp_get (v := .ref (q + 2)) hx hb hts hown hZ fx30 fl_X13_10 rfl dX13_readBook_15 ?_
  refine lv_iconst (v := 1) hx hb dX13_readBook_18 (by decide) ?_
  refine lv_iconst (v := 0) hx hb dX13_readBook_19 (by decide) ?_
  have fx31 : V26 (q + 2) = some (.inl (cs 1, 2, .inl (g10))) := (o28 (q + 2) (hq_ne q 2 1 (by decide))).trans ((o19 (q + 2) (hq_ne q 2 0 (by decide))).trans (eV9))
  refine hp_iast hx hb hZ fx31 (by unfold vp_in; decide) dX13_readBook_20 (fun V32 _ _ e33 o34 hZ => ?_)
  have e33 : V32 (q + 2) = some (.inl (cs 1, 2, .inl (upd (g10) ((1 : Int32).toNatClampNeg) (0)))) := e33
  have hl35 : (0 : Int32).toInt = 0 := by decide
  have hP := hP.put (hr_2 hR) e33 o34 (hq_c21 (by omega) (hq_upd hf12 (show 0 ≤ _ ∧ _ ≤ 60 by constructor <;> omega))) rfl
  obtain ⟨g36, ge37⟩ : ∃ g9 : Nat → Int32, g9 = upd (g10) ((1 : Int32).toNatClampNeg) (0) := ⟨_, rfl⟩
  have fx39 : V32 (q + 2) = some (.inl (cs 1, 2, .inl (g36))) := by rw [ge37]; exact e33
  have hf38 := hq_rg hP.1 (hr_2 hR) fx39
  have b40 : (g36 (1 : Int32).toNatClampNeg).toInt = (0 : Int32).toInt := congrArg Int32.toInt ((congrFun ge37 _).trans hm_ue)
  have b41 : (0 : Int32).toInt = 0 := by decide
  refine lv_aload_n hx hb dX13_readBook_21 rfl (lv_at hl 0 rfl) ?_
  refine lv_iconst (v := 0) hx hb dX13_readBook_22 (by decide) ?_
  have fx42 : V32 (mo) = some (.inr (13, hm_o q (m_tp) (m_sz) (m_fr) (m_bh) (m_hd) (m_ft) (m_fa) (m_le) (m_fo) (m_as) (m_fd) (m_bc) (m_bg) (m_bs) (m_be) (m_b0) (m_b1) (m_cm) (m_hc))) := (o34 (mo) (hq_tne h_mo (hr_2 hR) (by simp))).trans (fx30)
  refine hp_put hx hb hts hown hZ fx42 fp_X13_76 rfl rfl (Nat.le_of_ble_eq_true rfl) dX13_readBook_23 (fun V43 _ _ e44 o45 hZ => ?_)
  have e44 : V43 (mo) = some (.inr (13, hm_o q (m_tp) (m_sz) (m_fr) (0) (m_hd) (m_ft) (m_fa) (m_le) (m_fo) (m_as) (m_fd) (m_bc) (m_bg) (m_bs) (m_be) (m_b0) (m_b1) (m_cm) (m_hc))) := e44
  have hP := hP.put h_mo e44 o45 (trivial) rfl
  refine lv_aload_n hx hb dX13_readBook_26 rfl (lv_at hl 0 rfl) ?_
  have hl52 : (0 : Int32).toInt = 0 := by decide
  refine hp_callv (hp_runV (As := []) (rest := []) hx hb hml hown hts (t_X13_scan l D cs B G  V43 n hP.1 q hR (mo) h_mo e44  (by omega) (by omega) (by omega) (by omega) (by omega) (by omega) (by omega) (by omega) (by omega) (by omega)) hZ e44 cv_X13_111 rfl rfl ⟨Nat.le_of_ble_eq_true rfl, Nat.le_of_ble_eq_true rfl⟩ rfl hl.1 rfl (Nat.le_of_ble_eq_true rfl) dX13_readBook_27 ⟨(Nat.le_of_ble_eq_true rfl), (Nat.le_of_ble_eq_true rfl)⟩) hZ (fun V46 n47 _ _ hw48 hZ => ?_)
  obtain ⟨rfl, hq50, ⟨z53, z54, z55, ho56, hi57, hi58, hi59⟩⟩ := hw48
  have hP := hP.trans hq50 (by intro g h; simp_all)
  have b60 := hq_rng z53
  have b61 := hq_rng z54
  have b62 := hq_rng z55
  have hsd := hm_SC.hd (by assumption : hm_SC m_sz z53 z54 z55)
  have fx64 : V46 (q + 2) = some (.inl (cs 1, 2, .inl (g36))) := (hq50.2 (q + 2) _ (hr_2 hR) rfl).trans ((o45 (q + 2) (hq_tne (hr_2 hR) h_mo (by simp))).trans (fx39))
  have fx65 : V46 (q + 10) = some (.inl (cs 1, 120, .inl (g2))) := (hq50.2 (q + 10) _ (hr_10 hR) rfl).trans ((o45 (q + 10) (hq_tne (hr_10 hR) h_mo (by simp))).trans ((o34 (q + 10) (hq_ne q 10 2 (by decide))).trans ((o28 (q + 10) (hq_ne q 10 1 (by decide))).trans ((o19 (q + 10) (hq_ne q 10 0 (by decide))).trans (eV1)))))
  have fx66 : V46 (q + 14) = some (.inl (cs 1, 120, .inl (g6))) := (hq50.2 (q + 14) _ (hr_14 hR) rfl).trans ((o45 (q + 14) (hq_tne (hr_14 hR) h_mo (by simp))).trans ((o34 (q + 14) (hq_ne q 14 2 (by decide))).trans ((o28 (q + 14) (hq_ne q 14 1 (by decide))).trans ((o19 (q + 14) (hq_ne q 14 0 (by decide))).trans (eV5)))))
  suffices lp30 : ∀ (k9 : Nat) (V9 : hp_V) (H9 : Heap) (locs9 : List Loc) (ls : Array Slot)  (fr9 : Int32) (bh9 : Int32) (hd9 : Int32) (ft9 : Int32) (fa9 : Int32), (10 * (5000 - bh9.toInt) + hd9.toInt).toNat = k9 → hp_Z D cs B s V9 H9 n locs9 → hq_P cs G (fun g => g.1 == 1 || g.1 == 41 || g.1 == 50) V V9 → V9 (mo) = some (.inr (13, hm_o q (m_tp) (m_sz) (fr9) (bh9) (hd9) (ft9) (fa9) (m_le) (m_fo) (m_as) (m_fd) (m_bc) (m_bg) (m_bs) (m_be) (m_b0) (m_b1) (m_cm) (m_hc))) → 0 ≤ hd9.toInt ∧ hd9.toInt ≤ 5 → 0 ≤ bh9.toInt ∧ bh9.toInt ≤ 4001 → hm_SC m_sz fr9 bh9 hd9 → hm_VQ cs V9 q 60 1 → hm_JH cs V V9 q → lv_has ls 1 [(0, .ref (mo))] → W p l e ({ frames := 12, cells := 0, slots := 0, locals := 256 }) s m ([.ref (mo)] : List Value).toArray below meth c H9 locs9 0 0 (hq_MQ below (hq_QX D cs B (fun v V' n' => v = none ∧ n = n' ∧ hq_P cs G (fun g => g.1 == 1 || g.1 == 41 || g.1 == 50) V V' ∧ (∃ (m_fr1 : Int32) (m_bh1 : Int32) (m_hd1 : Int32) (m_ft1 : Int32) (m_fa1 : Int32), V' mo = some (.inr (13, hm_o q (m_tp) (m_sz) (m_fr1) (m_bh1) (m_hd1) (m_ft1) (m_fa1) (m_le) (m_fo) (m_as) (m_fd) (m_bc) (m_bg) (m_bs) (m_be) (m_b0) (m_b1) (m_cm) (m_hc)))) ∧ (hm_JH cs V V' q ∧ hm_VQ cs V' q 60 1)) (fun x V' n' => x = q + 19 ∧ n = n' ∧ hq_P cs G (fun g => g.1 == 1 || g.1 == 41 || g.1 == 50) V V' ∧ (∃ (m_fr1 : Int32) (m_bh1 : Int32) (m_hd1 : Int32) (m_ft1 : Int32) (m_fa1 : Int32), V' mo = some (.inr (13, hm_o q (m_tp) (m_sz) (m_fr1) (m_bh1) (m_hd1) (m_ft1) (m_fa1) (m_le) (m_fo) (m_as) (m_fd) (m_bc) (m_bg) (m_bs) (m_be) (m_b0) (m_b1) (m_cm) (m_hc)))) ∧ hm_JH cs V V' q)) ([.ref (mo)] : List Value).toArray s 0 0 (hp_F B)) (F0 m 30 ls []) from lp30 _ _ _ _ ls  (z53) (z54) (z55) (m_ft) (m_fa) rfl hZ hP ho56 (by omega) (by omega) (by assumption) (hm_VQ.empty fx64 (by show (g36 (1 : Int32).toNatClampNeg).toInt ≤ 0; omega)) (hm_JH.of eV1 eV5 eV9 fx65 fx66 fx64 (fun j hj => rfl) (fun j hj => rfl) ((congrFun ge37 0).trans (hm_un (by decide))) (hq_rg hI (hr_2 hR) eV9 0 (by decide)).2) (lv_sub hl [0] rfl)
  intro k9
  induction k9 using Nat.strongRecOn with
  | _ k9 ih30 =>
    intro V9 H9 locs9 ls  fr9 bh9 hd9 ft9 fa9 hk30 hZ hP ho63 hv67 hv68 hvs hvd hvh hl
    have hb_fr9 := hq_rng fr9
    have hb_bh9 := hq_rng bh9
    have hb_hd9 := hq_rng hd9
    have hb_ft9 := hq_rng ft9
    have hb_fa9 := hq_rng fa9
    have hP_30 := hP
    refine lv_aload_n hx hb dX13_readBook_30 rfl (lv_at hl 0 rfl) ?_
    refine hp_get (v := .int (hd9)) hx hb hts hown hZ ho63 fl_X13_83 rfl dX13_readBook_31 ?_
    refine lv_if_eq (tgt := 62) hx hb dX13_readBook_34 (by decide) (fun c69 => ?_) (fun c69 => ?_)
    · have c69 : (hd9).toInt = (0 : Int) := hq_eqi.mp c69
      exact hq_vret hx hb hr hlocks hZ ⟨rfl, rfl, hP, ⟨fr9, bh9, hd9, ft9, fa9, ho63⟩, ⟨hvh, hvd⟩⟩ dX13_readBook_62
    · have c69 : ¬ (hd9).toInt = (0 : Int) := fun h9 => c69 (hq_eqi.mpr h9)
      refine lv_aload_n hx hb dX13_readBook_37 rfl (lv_at hl 0 rfl) ?_
      refine hq_callx (hq_runV (As := []) (rest := []) hx hb hml hown hts (t_X13_readItem l D cs B G  V9 n hP.1 q hR (mo) h_mo ho63  (by omega) (by omega) (by omega) (by omega) (by omega) (by omega) (by omega) (by omega) (by assumption) ) hZ ho63 cv_X13_169 rfl rfl ⟨Nat.le_of_ble_eq_true rfl, Nat.le_of_ble_eq_true rfl⟩ rfl hl.1 rfl (Nat.le_of_ble_eq_true rfl) dX13_readBook_38 ⟨(Nat.le_of_ble_eq_true rfl), (Nat.le_of_ble_eq_true rfl)⟩) hZ hnx hlocks (by rintro x9 V9 n9 ⟨rfl, rfl, hq9, ⟨z76x, z77x, z78x, z79x, z80x, hox0, hix00, hix01⟩, hxp⟩; have hbxz76 := hq_rng z76x; have hbxz77 := hq_rng z77x; have hbxz78 := hq_rng z78x; have hbxz79 := hq_rng z79x; have hbxz80 := hq_rng z80x; exact ⟨rfl, rfl, hP.trans hq9 (by intro g h; simp_all), ⟨z76x, z77x, z78x, z79x, z80x, hox0⟩, (fun h0 => hxp (hvh h0))⟩) (fun v9 V70 n71 _ _ hw72 hZ => ?_)
      obtain ⟨rfl, rfl, hq74, ⟨z76, z77, z78, z79, z80, ho81, hi82, hi83⟩, hr75⟩ := hw72
      refine W.eq (g2 := F0 m 41 ls []) rfl ?_
      have hP := hP.trans hq74 (by intro g h; simp_all)
      have b84 := hq_rng z76
      have b85 := hq_rng z77
      have b86 := hq_rng z78
      have b87 := hq_rng z79
      have b88 := hq_rng z80
      refine lv_aload_n hx hb dX13_readBook_41 rfl (lv_at hl 0 rfl) ?_
      refine hp_get (v := .int (z78)) hx hb hts hown hZ ho81 fl_X13_83 rfl dX13_readBook_42 ?_
      refine lv_iconst (v := 4) hx hb dX13_readBook_45 (by decide) ?_
      refine lv_icmp_eq (tgt := 55) hx hb dX13_readBook_46 (by decide) (fun c89 => ?_) (fun c89 => ?_)
      · have c89 : (z78).toInt = (4 : Int) := hq_eqi.mp c89
        refine lv_aload_n hx hb dX13_readBook_55 rfl (lv_at hl 0 rfl) ?_
        refine hp_callv (hp_runV (As := []) (rest := []) hx hb hml hown hts (t_X13_scan l D cs B G  V70 n hP.1 q hR (mo) h_mo ho81  (by omega) (by omega) (by omega) (by omega) (by omega) (by omega) (by omega) (by omega) (hm_SC.s0 (by assumption)) (hm_SC.s1 (by assumption) (by first | omega | (have h8 := hm_Is.hd (by assumption) (by omega); omega)))) hZ ho81 cv_X13_111 rfl rfl ⟨Nat.le_of_ble_eq_true rfl, Nat.le_of_ble_eq_true rfl⟩ rfl hl.1 rfl (Nat.le_of_ble_eq_true rfl) dX13_readBook_56 ⟨(Nat.le_of_ble_eq_true rfl), (Nat.le_of_ble_eq_true rfl)⟩) hZ (fun V90 n91 _ _ hw92 hZ => ?_)
        obtain ⟨rfl, hq94, ⟨z96, z97, z98, ho99, hi100, hi101, hi102⟩⟩ := hw92
        have hP := hP.trans hq94 (by intro g h; simp_all)
        have b103 := hq_rng z96
        have b104 := hq_rng z97
        have b105 := hq_rng z98
        have hsd := hm_SC.hd (by assumption : hm_SC m_sz z96 z97 z98)
        have hup := hm_Up.out (by assumption : hm_Up _ z97 z98)
        refine lv_goto (tgt := 30) hx hb dX13_readBook_59 (by decide) ?_
        exact ih30 _ (by omega) _ _ _ ls  (z96) (z97) (z98) (z79) (z80) rfl hZ hP ho99 (by omega) (by omega) (by assumption) ((hr75.2 hvd).keep hR (fun x t hx hg => hq94.2 x t hx (by simp [hg]))) (fun h0 => (hr75.1 (hvh h0)).keep hR (fun x t hx hg => hq94.2 x t hx (by simp [hg]))) (lv_sub hl [0] rfl)
      · have c89 : ¬ (z78).toInt = (4 : Int) := fun h9 => c89 (hq_eqi.mpr h9)
        refine lv_aload_n hx hb dX13_readBook_49 rfl (lv_at hl 0 rfl) ?_
        refine lv_iconst (v := 1) hx hb dX13_readBook_50 (by decide) ?_
        have hl115 : (1 : Int32).toInt = 1 := by decide
        refine hp_callq (hp_runV (As := [.int (1)]) (rest := []) hx hb hml hown hts (t_X13_wrong l D cs B G  V70 n hP.1 q hR (mo) h_mo (1) ho81  (by omega) (by omega) (by omega) (by omega) (by omega) (by omega) (by omega) (by omega) ) hZ ho81 cv_X13_107 rfl rfl ⟨Nat.le_of_ble_eq_true rfl, Nat.le_of_ble_eq_true rfl⟩ rfl hl.1 rfl (Nat.le_of_ble_eq_true rfl) dX13_readBook_51 ⟨(Nat.le_of_ble_eq_true rfl), (Nat.le_of_ble_eq_true rfl)⟩) hZ (fun r109 V106 n107 _ _ hw108 hZ => ?_)
        obtain ⟨rfl, hq110, ⟨z112, z113, ho114⟩, hr111⟩ := hw108
        have hP := hP.trans hq110 (by intro g h; simp_all)
        have b116 := hq_rng z112
        have b117 := hq_rng z113
        subst hr111
        refine W.eq (g2 := F0 m 54 ls [.ref (q + 19)]) rfl ?_
        exact hq_athrow hx hb hnx hlocks hZ ⟨rfl, rfl, hP, ⟨z76, z77, z78, z112, z113, ho114⟩, (fun h0 => (hr75.1 (hvh h0)).keep hR (fun x t hx hg => hq110.2 x t hx (by simp [hg])))⟩ dX13_readBook_54

theorem cl_X13_210 : Cond.classLink RX13 210 RX12 ∈ TBG := TBG_mem (List.mem_of_getElem? (i := 990) (by decide +kernel)) (by decide +kernel)

set_option maxHeartbeats 4000000 in
set_option maxRecDepth 100000 in
theorem t_X13_become (l : Launch) (D : va_G) (cs : Nat → ClassId) (B : Nat) (G : hq_G) (V : hp_V) (n : Nat) (hI : hq_I cs G V) (q : Nat) (hR : hq_RT G q) (mo : Nat) (h_mo : G mo = some (24, 0, 0, 0)) {m_tp m_sz m_fr m_bh m_hd m_ft m_fa m_le m_fo m_as m_fd m_bc m_bg m_bs m_be m_b0 m_b1 m_cm m_hc : Int32} (ho_mo : V mo = some (.inr (13, hm_o q (m_tp) (m_sz) (m_fr) (m_bh) (m_hd) (m_ft) (m_fa) (m_le) (m_fo) (m_as) (m_fd) (m_bc) (m_bg) (m_bs) (m_be) (m_b0) (m_b1) (m_cm) (m_hc)))) (hi_mo0 : 0 ≤ m_tp.toInt ∧ m_tp.toInt ≤ 4000) (hi_mo1 : 0 ≤ m_sz.toInt ∧ m_sz.toInt ≤ 4000) (hi_mo2 : 0 ≤ m_le.toInt ∧ m_le.toInt ≤ 276) (hi_mo3 : 0 ≤ m_fo.toInt ∧ m_fo.toInt ≤ 4) (hi_mo4 : 0 ≤ m_as.toInt ∧ m_as.toInt ≤ 4000) (hi_mo5 : 0 ≤ m_fd.toInt ∧ m_fd.toInt ≤ 900) (hi_mo6 : 0 ≤ m_cm.toInt ∧ m_cm.toInt ≤ 2) (hi_mo7 : 0 ≤ m_hc.toInt ∧ m_hc.toInt ≤ 1) (hD : hm_VQ cs V q 60 1) : hp_M l yX13_become cX13_become 2 none ({ frames := 1, cells := 0, slots := 0, locals := 21 }) D cs B V n [.ref (mo)] (hp_QV D cs B (fun V' n' => n = n' ∧ hq_P cs G (fun g => g.1 == 41 || g.1 == 50) V V' ∧ (V' mo = some (.inr (13, hm_o q (m_tp) (m_sz) (m_fr) (m_bh) (m_hd) (m_ft) (m_fa) (m_le) (m_fo) (m_as) (m_fd) (m_bc) (m_bg) (m_bs) (m_be) (m_b0) (m_b1) (m_cm) (m_hc)))) ∧ (hm_VQ cs V' q 0 0))) 0 0 := by
  refine hp_walk (R0 := RX13) (by decide) rfl ?_ (Nat.le_of_ble_eq_true rfl)
  intro p e s m below meth c ls hx hb hr hts hown hlocks hin hml hZ hl
  have hP : hq_P cs G (fun g => g.1 == 41 || g.1 == 50) V V := hq_P.rf hI
  have hl : lv_has ls 2 [(0, .ref (mo))] := hl
  have hb_m_tp := hq_rng m_tp
  have hb_m_sz := hq_rng m_sz
  have hb_m_fr := hq_rng m_fr
  have hb_m_bh := hq_rng m_bh
  have hb_m_hd := hq_rng m_hd
  have hb_m_ft := hq_rng m_ft
  have hb_m_fa := hq_rng m_fa
  have hb_m_le := hq_rng m_le
  have hb_m_fo := hq_rng m_fo
  have hb_m_as := hq_rng m_as
  have hb_m_fd := hq_rng m_fd
  have hb_m_bc := hq_rng m_bc
  have hb_m_bg := hq_rng m_bg
  have hb_m_bs := hq_rng m_bs
  have hb_m_be := hq_rng m_be
  have hb_m_b0 := hq_rng m_b0
  have hb_m_b1 := hq_rng m_b1
  have hb_m_cm := hq_rng m_cm
  have hb_m_hc := hq_rng m_hc
  obtain ⟨hN3, g2, eV1, hf4⟩ := hq_o21 hP.1 (hr_10 hR)
  obtain ⟨hN7, g6, eV5, hf8⟩ := hq_o21 hP.1 (hr_14 hR)
  obtain ⟨hN11, g10, eV9, hf12⟩ := hq_o21 hP.1 (hr_2 hR)
  refine lv_aload_n hx hb dX13_become_0 rfl (lv_at hl 0 rfl) ?_
  refine hp_get (v := .ref (q)) hx hb hts hown hZ ho_mo fl_X13_1 rfl dX13_become_1 ?_
  refine lv_iconst (v := 0) hx hb dX13_become_4 (by decide) ?_
  refine lv_aload_n hx hb dX13_become_5 rfl (lv_at hl 0 rfl) ?_
  refine hp_get (v := .ref (q)) hx hb hts hown hZ ho_mo fl_X13_1 rfl dX13_become_6 ?_
  refine lv_iconst (v := 1) hx hb dX13_become_9 (by decide) ?_
  obtain ⟨hN15, g14, eV13, hf16⟩ := hq_o21 hP.1 (hr_0 hR)
  refine hp_iald hx hb hZ eV13 (by unfold vp_in; decide) dX13_become_10 ?_
  refine lv_topi (fun y17 ey18 => ?_)
  have b19 : hq_ir (hq_lo 11) (hq_hi 11) y17 := by rw [ey18]; exact hf16 _ (by decide)
  have b19 : 0 ≤ (y17).toInt ∧ (y17).toInt ≤ 6 := b19
  refine hp_iast hx hb hZ eV13 (by unfold vp_in; decide) dX13_become_11 (fun V20 _ _ e21 o22 hZ => ?_)
  have e21 : V20 (q) = some (.inl (cs 1, 2, .inl (upd (g14) ((0 : Int32).toNatClampNeg) (y17)))) := e21
  have hP := hP.put (hr_0 hR) e21 o22 (hq_c21 (by omega) (hq_upd hf16 (show 0 ≤ _ ∧ _ ≤ 6 by constructor <;> omega))) rfl
  refine lv_aload_n hx hb dX13_become_12 rfl (lv_at hl 0 rfl) ?_
  have fx23 : V20 (mo) = some (.inr (13, hm_o q (m_tp) (m_sz) (m_fr) (m_bh) (m_hd) (m_ft) (m_fa) (m_le) (m_fo) (m_as) (m_fd) (m_bc) (m_bg) (m_bs) (m_be) (m_b0) (m_b1) (m_cm) (m_hc))) := (o22 (mo) (hq_tne h_mo (hr_0 hR) (by simp))).trans (ho_mo)
  refine hp_get (v := .ref (q + 1)) hx hb hts hown hZ fx23 fl_X13_7 rfl dX13_become_13 ?_
  refine lv_iconst (v := 0) hx hb dX13_become_16 (by decide) ?_
  refine lv_aload_n hx hb dX13_become_17 rfl (lv_at hl 0 rfl) ?_
  refine hp_get (v := .ref (q + 1)) hx hb hts hown hZ fx23 fl_X13_7 rfl dX13_become_18 ?_
  refine lv_iconst (v := 1) hx hb dX13_become_21 (by decide) ?_
  obtain ⟨hN26, g25, eV24, hf27⟩ := hq_o21 hP.1 (hr_1 hR)
  refine hp_iald hx hb hZ eV24 (by unfold vp_in; decide) dX13_become_22 ?_
  refine lv_topi (fun y28 ey29 => ?_)
  have b30 : hq_ir (hq_lo 9) (hq_hi 9) y28 := by rw [ey29]; exact hf27 _ (by decide)
  have b30 : 0 ≤ (y28).toInt ∧ (y28).toInt ≤ 30 := b30
  refine hp_iast hx hb hZ eV24 (by unfold vp_in; decide) dX13_become_23 (fun V31 _ _ e32 o33 hZ => ?_)
  have e32 : V31 (q + 1) = some (.inl (cs 1, 2, .inl (upd (g25) ((0 : Int32).toNatClampNeg) (y28)))) := e32
  have hP := hP.put (hr_1 hR) e32 o33 (hq_c21 (by omega) (hq_upd hf27 (show 0 ≤ _ ∧ _ ≤ 30 by constructor <;> omega))) rfl
  refine lv_aload_n hx hb dX13_become_24 rfl (lv_at hl 0 rfl) ?_
  have fx34 : V31 (mo) = some (.inr (13, hm_o q (m_tp) (m_sz) (m_fr) (m_bh) (m_hd) (m_ft) (m_fa) (m_le) (m_fo) (m_as) (m_fd) (m_bc) (m_bg) (m_bs) (m_be) (m_b0) (m_b1) (m_cm) (m_hc))) := (o33 (mo) (hq_tne h_mo (hr_1 hR) (by simp))).trans (fx23)
  refine hp_get (v := .ref (q + 2)) hx hb hts hown hZ fx34 fl_X13_10 rfl dX13_become_25 ?_
  refine lv_iconst (v := 0) hx hb dX13_become_28 (by decide) ?_
  refine lv_aload_n hx hb dX13_become_29 rfl (lv_at hl 0 rfl) ?_
  refine hp_get (v := .ref (q + 2)) hx hb hts hown hZ fx34 fl_X13_10 rfl dX13_become_30 ?_
  refine lv_iconst (v := 1) hx hb dX13_become_33 (by decide) ?_
  have fx35 : V31 (q + 2) = some (.inl (cs 1, 2, .inl (g10))) := (o33 (q + 2) (hq_ne q 2 1 (by decide))).trans ((o22 (q + 2) (hq_ne q 2 0 (by decide))).trans (eV9))
  refine hp_iald hx hb hZ fx35 (by unfold vp_in; decide) dX13_become_34 ?_
  refine lv_topi (fun y36 ey37 => ?_)
  have b38 : hq_ir (hq_lo 8) (hq_hi 8) y36 := by rw [ey37]; exact hf12 _ (by decide)
  have b38 : 0 ≤ (y36).toInt ∧ (y36).toInt ≤ 60 := b38
  refine hp_iast hx hb hZ fx35 (by unfold vp_in; decide) dX13_become_35 (fun V39 _ _ e40 o41 hZ => ?_)
  have e40 : V39 (q + 2) = some (.inl (cs 1, 2, .inl (upd (g10) ((0 : Int32).toNatClampNeg) (y36)))) := e40
  have hP := hP.put (hr_2 hR) e40 o41 (hq_c21 (by omega) (hq_upd hf12 (show 0 ≤ _ ∧ _ ≤ 60 by constructor <;> omega))) rfl
  obtain ⟨g42, ge43⟩ : ∃ g9 : Nat → Int32, g9 = upd (g10) ((0 : Int32).toNatClampNeg) (y36) := ⟨_, rfl⟩
  have fx45 : V39 (q + 2) = some (.inl (cs 1, 2, .inl (g42))) := by rw [ge43]; exact e40
  have hf44 := hq_rg hP.1 (hr_2 hR) fx45
  have b46 : (g42 (0 : Int32).toNatClampNeg).toInt = (y36 : Int32).toInt := congrArg Int32.toInt ((congrFun ge43 _).trans hm_ue)
  refine lv_iconst (v := 0) hx hb dX13_become_36 (by decide) ?_
  refine lv_istore_n (lv' := [(1, .int (0)), (0, .ref (mo))]) hx hb dX13_become_37 rfl hl (by decide) rfl (fun ls hl => ?_)
  have hl47 : (0 : Int32).toInt = 0 := by decide
  have fx48 : V39 (q + 10) = some (.inl (cs 1, 120, .inl (g2))) := (o41 (q + 10) (hq_ne q 10 2 (by decide))).trans ((o33 (q + 10) (hq_ne q 10 1 (by decide))).trans ((o22 (q + 10) (hq_ne q 10 0 (by decide))).trans (eV1)))
  have fx50 : V39 (q + 14) = some (.inl (cs 1, 120, .inl (g6))) := (o41 (q + 14) (hq_ne q 14 2 (by decide))).trans ((o33 (q + 14) (hq_ne q 14 1 (by decide))).trans ((o22 (q + 14) (hq_ne q 14 0 (by decide))).trans (eV5)))
  suffices lp38 : ∀ (k9 : Nat) (V9 : hp_V) (H9 : Heap) (locs9 : List Loc) (ls : Array Slot) (i : Int32), (1000 - i.toInt).toNat = k9 → hp_Z D cs B s V9 H9 n locs9 → hq_P cs G (fun g => g.1 == 41 || g.1 == 50) V V9 → V9 (q + 10) = some (.inl (cs 1, 120, .inl (g2))) → V9 (q + 14) = some (.inl (cs 1, 120, .inl (g6))) → V9 (q + 2) = some (.inl (cs 1, 2, .inl (g42))) → 0 ≤ i.toInt → i.toInt ≤ 30 → lv_has ls 2 [(1, .int (i)), (0, .ref (mo))] → W p l e ({ frames := 1, cells := 0, slots := 0, locals := 21 }) s m ([.ref (mo)] : List Value).toArray below meth c H9 locs9 0 0 (MQ below (hp_QV D cs B (fun V' n' => n = n' ∧ hq_P cs G (fun g => g.1 == 41 || g.1 == 50) V V' ∧ (V' mo = some (.inr (13, hm_o q (m_tp) (m_sz) (m_fr) (m_bh) (m_hd) (m_ft) (m_fa) (m_le) (m_fo) (m_as) (m_fd) (m_bc) (m_bg) (m_bs) (m_be) (m_b0) (m_b1) (m_cm) (m_hc)))) ∧ (hm_VQ cs V' q 0 0))) ([.ref (mo)] : List Value).toArray s 0 0 (hp_F B)) (F0 m 38 ls []) from lp38 _ _ _ _ ls (0) rfl hZ hP fx48 fx50 fx45 (by omega) (by omega) (lv_sub hl [0, 1] rfl)
  intro k9
  induction k9 using Nat.strongRecOn with
  | _ k9 ih38 =>
    intro V9 H9 locs9 ls i  hk38 hZ hP ho49 ho51 ho52 hv53 hv54 hl
    have hb_i := hq_rng i
    have hP_38 := hP
    have hf55 := hq_rg hP.1 (hr_10 hR) ho49
    have hf56 := hq_rg hP.1 (hr_14 hR) ho51
    have hf57 := hq_rg hP.1 (hr_2 hR) ho52
    refine lv_iload_n hx hb dX13_become_38 rfl (lv_at hl 0 rfl) ?_
    refine lv_bipush (v := 30) hx hb dX13_become_39 (by decide) ?_
    refine lv_icmp_ge (tgt := 80) hx hb dX13_become_41 (by decide) (fun c58 => ?_) (fun c58 => ?_)
    · have c58 : (30 : Int) ≤ (i).toInt := hq_lei.mp c58
      refine lv_iconst (v := 0) hx hb dX13_become_80 (by decide) ?_
      refine lv_istore_n (lv' := [(1, .int (0)), (0, .ref (mo))]) hx hb dX13_become_81 rfl hl (by decide) rfl (fun ls hl => ?_)
      have hl59 : (0 : Int32).toInt = 0 := by decide
      suffices lp82 : ∀ (k9 : Nat) (V9 : hp_V) (H9 : Heap) (locs9 : List Loc) (ls : Array Slot) (i : Int32), (1000 - i.toInt).toNat = k9 → hp_Z D cs B s V9 H9 n locs9 → hq_P cs G (fun g => g.1 == 41 || g.1 == 50) V V9 → V9 (q + 10) = some (.inl (cs 1, 120, .inl (g2))) → V9 (q + 14) = some (.inl (cs 1, 120, .inl (g6))) → V9 (q + 2) = some (.inl (cs 1, 2, .inl (g42))) → 0 ≤ i.toInt → i.toInt ≤ 360 → lv_has ls 2 [(1, .int (i)), (0, .ref (mo))] → W p l e ({ frames := 1, cells := 0, slots := 0, locals := 21 }) s m ([.ref (mo)] : List Value).toArray below meth c H9 locs9 0 0 (MQ below (hp_QV D cs B (fun V' n' => n = n' ∧ hq_P cs G (fun g => g.1 == 41 || g.1 == 50) V V' ∧ (V' mo = some (.inr (13, hm_o q (m_tp) (m_sz) (m_fr) (m_bh) (m_hd) (m_ft) (m_fa) (m_le) (m_fo) (m_as) (m_fd) (m_bc) (m_bg) (m_bs) (m_be) (m_b0) (m_b1) (m_cm) (m_hc)))) ∧ (hm_VQ cs V' q 0 0))) ([.ref (mo)] : List Value).toArray s 0 0 (hp_F B)) (F0 m 82 ls []) from lp82 _ _ _ _ ls (0) rfl hZ hP ho49 ho51 ho52 (by omega) (by omega) (lv_sub hl [0, 1] rfl)
      intro k9
      induction k9 using Nat.strongRecOn with
      | _ k9 ih82 =>
        intro V9 H9 locs9 ls i  hk82 hZ hP ho60 ho61 ho62 hv63 hv64 hl
        have hb_i := hq_rng i
        have hP_82 := hP
        have hf65 := hq_rg hP.1 (hr_10 hR) ho60
        have hf66 := hq_rg hP.1 (hr_14 hR) ho61
        have hf67 := hq_rg hP.1 (hr_2 hR) ho62
        refine lv_iload_n hx hb dX13_become_82 rfl (lv_at hl 0 rfl) ?_
        refine lv_sipush (v := 360) hx hb dX13_become_83 (by decide) ?_
        refine lv_icmp_ge (tgt := 111) hx hb dX13_become_86 (by decide) (fun c68 => ?_) (fun c68 => ?_)
        · have c68 : (360 : Int) ≤ (i).toInt := hq_lei.mp c68
          refine lv_iconst (v := 0) hx hb dX13_become_111 (by decide) ?_
          refine lv_istore_n (lv' := [(1, .int (0)), (0, .ref (mo))]) hx hb dX13_become_112 rfl hl (by decide) rfl (fun ls hl => ?_)
          have hl69 : (0 : Int32).toInt = 0 := by decide
          suffices lp113 : ∀ (k9 : Nat) (V9 : hp_V) (H9 : Heap) (locs9 : List Loc) (ls : Array Slot) (i : Int32), (1000 - i.toInt).toNat = k9 → hp_Z D cs B s V9 H9 n locs9 → hq_P cs G (fun g => g.1 == 41 || g.1 == 50) V V9 → V9 (q + 10) = some (.inl (cs 1, 120, .inl (g2))) → V9 (q + 14) = some (.inl (cs 1, 120, .inl (g6))) → V9 (q + 2) = some (.inl (cs 1, 2, .inl (g42))) → 0 ≤ i.toInt → i.toInt ≤ 480 → lv_has ls 2 [(1, .int (i)), (0, .ref (mo))] → W p l e ({ frames := 1, cells := 0, slots := 0, locals := 21 }) s m ([.ref (mo)] : List Value).toArray below meth c H9 locs9 0 0 (MQ below (hp_QV D cs B (fun V' n' => n = n' ∧ hq_P cs G (fun g => g.1 == 41 || g.1 == 50) V V' ∧ (V' mo = some (.inr (13, hm_o q (m_tp) (m_sz) (m_fr) (m_bh) (m_hd) (m_ft) (m_fa) (m_le) (m_fo) (m_as) (m_fd) (m_bc) (m_bg) (m_bs) (m_be) (m_b0) (m_b1) (m_cm) (m_hc)))) ∧ (hm_VQ cs V' q 0 0))) ([.ref (mo)] : List Value).toArray s 0 0 (hp_F B)) (F0 m 113 ls []) from lp113 _ _ _ _ ls (0) rfl hZ hP ho60 ho61 ho62 (by omega) (by omega) (lv_sub hl [0, 1] rfl)
          intro k9
          induction k9 using Nat.strongRecOn with
          | _ k9 ih113 =>
            intro V9 H9 locs9 ls i  hk113 hZ hP ho70 ho71 ho72 hv73 hv74 hl
            have hb_i := hq_rng i
            have hP_113 := hP
            have hf75 := hq_rg hP.1 (hr_10 hR) ho70
            have hf76 := hq_rg hP.1 (hr_14 hR) ho71
            have hf77 := hq_rg hP.1 (hr_2 hR) ho72
            refine lv_iload_n hx hb dX13_become_113 rfl (lv_at hl 0 rfl) ?_
            refine lv_sipush (v := 480) hx hb dX13_become_114 (by decide) ?_
            refine lv_icmp_ge (tgt := 158) hx hb dX13_become_117 (by decide) (fun c78 => ?_) (fun c78 => ?_)
            · have c78 : (480 : Int) ≤ (i).toInt := hq_lei.mp c78
              refine lv_iconst (v := 0) hx hb dX13_become_158 (by decide) ?_
              refine lv_istore_n (lv' := [(1, .int (0)), (0, .ref (mo))]) hx hb dX13_become_159 rfl hl (by decide) rfl (fun ls hl => ?_)
              have hl79 : (0 : Int32).toInt = 0 := by decide
              suffices lp160 : ∀ (k9 : Nat) (V9 : hp_V) (H9 : Heap) (locs9 : List Loc) (ls : Array Slot) (i : Int32) (fk9 : Nat → Int32) (fs9 : Nat → Int32), (1000 - i.toInt).toNat = k9 → hp_Z D cs B s V9 H9 n locs9 → hq_P cs G (fun g => g.1 == 41 || g.1 == 50) V V9 → V9 (q + 10) = some (.inl (cs 1, 120, .inl (fk9))) → V9 (q + 14) = some (.inl (cs 1, 120, .inl (fs9))) → V9 (q + 2) = some (.inl (cs 1, 2, .inl (g42))) → 0 ≤ i.toInt → i.toInt ≤ 60 → hm_B fk9 fs9 g2 g6 i.toInt → lv_has ls 2 [(1, .int (i)), (0, .ref (mo))] → W p l e ({ frames := 1, cells := 0, slots := 0, locals := 21 }) s m ([.ref (mo)] : List Value).toArray below meth c H9 locs9 0 0 (MQ below (hp_QV D cs B (fun V' n' => n = n' ∧ hq_P cs G (fun g => g.1 == 41 || g.1 == 50) V V' ∧ (V' mo = some (.inr (13, hm_o q (m_tp) (m_sz) (m_fr) (m_bh) (m_hd) (m_ft) (m_fa) (m_le) (m_fo) (m_as) (m_fd) (m_bc) (m_bg) (m_bs) (m_be) (m_b0) (m_b1) (m_cm) (m_hc)))) ∧ (hm_VQ cs V' q 0 0))) ([.ref (mo)] : List Value).toArray s 0 0 (hp_F B)) (F0 m 160 ls []) from lp160 _ _ _ _ ls (0) (g2) (g6) rfl hZ hP ho70 ho71 ho72 (by omega) (by omega) (hm_B.zero (by decide)) (lv_sub hl [0, 1] rfl)
              intro k9
              induction k9 using Nat.strongRecOn with
              | _ k9 ih160 =>
                intro V9 H9 locs9 ls i fk9 fs9 hk160 hZ hP ho80 ho81 ho82 hv83 hv84 hvb hl
                have hb_i := hq_rng i
                have hP_160 := hP
                have hf85 := hq_rg hP.1 (hr_10 hR) ho80
                have hf86 := hq_rg hP.1 (hr_14 hR) ho81
                have hf87 := hq_rg hP.1 (hr_2 hR) ho82
                refine lv_iload_n hx hb dX13_become_160 rfl (lv_at hl 0 rfl) ?_
                refine lv_bipush (v := 60) hx hb dX13_become_161 (by decide) ?_
                refine lv_icmp_ge (tgt := 307) hx hb dX13_become_163 (by decide) (fun c88 => ?_) (fun c88 => ?_)
                · have c88 : (60 : Int) ≤ (i).toInt := hq_lei.mp c88
                  have fx89 : V9 (mo) = some (.inr (13, hm_o q (m_tp) (m_sz) (m_fr) (m_bh) (m_hd) (m_ft) (m_fa) (m_le) (m_fo) (m_as) (m_fd) (m_bc) (m_bg) (m_bs) (m_be) (m_b0) (m_b1) (m_cm) (m_hc))) := (hP_160.2 (mo) _ h_mo rfl).trans (ho_mo)
                  exact hp_vret hx hb hr hlocks hZ ⟨rfl, hP, fx89, (hm_VQ.become hD eV1 eV5 eV9 ho80 ho81 ho82 hvb (by omega) ((congrFun ge43 0).trans (hm_ue.trans ey37)) (hq_rg hI (hr_2 hR) eV9 1 (by decide)).2)⟩ dX13_become_307
                · have c88 : ¬ (60 : Int) ≤ (i).toInt := fun h9 => c88 (hq_lei.mpr h9)
                  refine lv_aload_n hx hb dX13_become_166 rfl (lv_at hl 1 rfl) ?_
                  have fx90 : V9 (mo) = some (.inr (13, hm_o q (m_tp) (m_sz) (m_fr) (m_bh) (m_hd) (m_ft) (m_fa) (m_le) (m_fo) (m_as) (m_fd) (m_bc) (m_bg) (m_bs) (m_be) (m_b0) (m_b1) (m_cm) (m_hc))) := (hP_160.2 (mo) _ h_mo rfl).trans (ho_mo)
                  refine hp_get (v := .ref (q + 10)) hx hb hts hown hZ fx90 fl_X13_29 rfl dX13_become_167 ?_
                  refine lv_iload_n hx hb dX13_become_170 rfl (lv_at hl 0 rfl) ?_
                  refine lv_aload_n hx hb dX13_become_171 rfl (lv_at hl 1 rfl) ?_
                  refine hp_get (v := .ref (q + 10)) hx hb hts hown hZ fx90 fl_X13_29 rfl dX13_become_172 ?_
                  refine lv_bipush (v := 60) hx hb dX13_become_175 (by decide) ?_
                  refine lv_iload_n hx hb dX13_become_177 rfl (lv_at hl 0 rfl) ?_
                  refine lv_iadd hx hb dX13_become_178 ?_
                  refine lv_topi (fun y91 ey92 => ?_)
                  obtain ⟨k93, hk94, b95, b96⟩ := hq_add (60) (i)
                  rw [← ey92] at hk94 b95 b96
                  have hk94 : (y91).toInt = (60 : Int) + (i).toInt + k93 * 4294967296 := hk94
                  obtain rfl : k93 = 0 := by omega
                  refine hp_iald hx hb hZ ho80 (hq_in (by omega) (by omega)) dX13_become_179 ?_
                  refine lv_topi (fun y97 ey98 => ?_)
                  have b99 := hq_rng y97
                  refine hp_iast hx hb hZ ho80 (hq_in (by omega) (by omega)) dX13_become_180 (fun V100 _ _ e101 o102 hZ => ?_)
                  have e101 : V100 (q + 10) = some (.inl (cs 1, 120, .inl (upd (fk9) ((i : Int32).toNatClampNeg) (y97)))) := e101
                  have hP := hP.put (hr_10 hR) e101 o102 (hq_c21 (by omega) (hq_upd hf85 (hq_rng _))) rfl
                  obtain ⟨g103, ge104⟩ : ∃ g9 : Nat → Int32, g9 = upd (fk9) ((i : Int32).toNatClampNeg) (y97) := ⟨_, rfl⟩
                  have fx106 : V100 (q + 10) = some (.inl (cs 1, 120, .inl (g103))) := by rw [ge104]; exact e101
                  have hf105 := hq_rg hP.1 (hr_10 hR) fx106
                  have b107 : (g103 (i : Int32).toNatClampNeg).toInt = (y97 : Int32).toInt := congrArg Int32.toInt ((congrFun ge104 _).trans hm_ue)
                  refine lv_aload_n hx hb dX13_become_181 rfl (lv_at hl 1 rfl) ?_
                  have fx108 : V100 (mo) = some (.inr (13, hm_o q (m_tp) (m_sz) (m_fr) (m_bh) (m_hd) (m_ft) (m_fa) (m_le) (m_fo) (m_as) (m_fd) (m_bc) (m_bg) (m_bs) (m_be) (m_b0) (m_b1) (m_cm) (m_hc))) := (o102 (mo) (hq_tne h_mo (hr_10 hR) (by simp))).trans (fx90)
                  refine hp_get (v := .ref (q + 11)) hx hb hts hown hZ fx108 fl_X13_32 rfl dX13_become_182 ?_
                  refine lv_iload_n hx hb dX13_become_185 rfl (lv_at hl 0 rfl) ?_
                  refine lv_aload_n hx hb dX13_become_186 rfl (lv_at hl 1 rfl) ?_
                  refine hp_get (v := .ref (q + 11)) hx hb hts hown hZ fx108 fl_X13_32 rfl dX13_become_187 ?_
                  refine lv_bipush (v := 60) hx hb dX13_become_190 (by decide) ?_
                  refine lv_iload_n hx hb dX13_become_192 rfl (lv_at hl 0 rfl) ?_
                  refine lv_iadd hx hb dX13_become_193 ?_
                  refine lv_topi (fun y109 ey110 => ?_)
                  obtain ⟨k111, hk112, b113, b114⟩ := hq_add (60) (i)
                  rw [← ey110] at hk112 b113 b114
                  have hk112 : (y109).toInt = (60 : Int) + (i).toInt + k111 * 4294967296 := hk112
                  obtain rfl : k111 = 0 := by omega
                  obtain ⟨hN117, g116, eV115, hf118⟩ := hq_o21 hP.1 (hr_11 hR)
                  refine hp_iald hx hb hZ eV115 (hq_in (by omega) (by omega)) dX13_become_194 ?_
                  refine lv_topi (fun y119 ey120 => ?_)
                  have b121 := hq_rng y119
                  refine hp_iast hx hb hZ eV115 (hq_in (by omega) (by omega)) dX13_become_195 (fun V122 _ _ e123 o124 hZ => ?_)
                  have e123 : V122 (q + 11) = some (.inl (cs 1, 120, .inl (upd (g116) ((i : Int32).toNatClampNeg) (y119)))) := e123
                  have hP := hP.put (hr_11 hR) e123 o124 (hq_c21 (by omega) (hq_upd hf118 (hq_rng _))) rfl
                  refine lv_aload_n hx hb dX13_become_196 rfl (lv_at hl 1 rfl) ?_
                  have fx125 : V122 (mo) = some (.inr (13, hm_o q (m_tp) (m_sz) (m_fr) (m_bh) (m_hd) (m_ft) (m_fa) (m_le) (m_fo) (m_as) (m_fd) (m_bc) (m_bg) (m_bs) (m_be) (m_b0) (m_b1) (m_cm) (m_hc))) := (o124 (mo) (hq_tne h_mo (hr_11 hR) (by simp))).trans (fx108)
                  refine hp_get (v := .ref (q + 12)) hx hb hts hown hZ fx125 fl_X13_35 rfl dX13_become_197 ?_
                  refine lv_iload_n hx hb dX13_become_200 rfl (lv_at hl 0 rfl) ?_
                  refine lv_aload_n hx hb dX13_become_201 rfl (lv_at hl 1 rfl) ?_
                  refine hp_get (v := .ref (q + 12)) hx hb hts hown hZ fx125 fl_X13_35 rfl dX13_become_202 ?_
                  refine lv_bipush (v := 60) hx hb dX13_become_205 (by decide) ?_
                  refine lv_iload_n hx hb dX13_become_207 rfl (lv_at hl 0 rfl) ?_
                  refine lv_iadd hx hb dX13_become_208 ?_
                  refine lv_topi (fun y126 ey127 => ?_)
                  obtain ⟨k128, hk129, b130, b131⟩ := hq_add (60) (i)
                  rw [← ey127] at hk129 b130 b131
                  have hk129 : (y126).toInt = (60 : Int) + (i).toInt + k128 * 4294967296 := hk129
                  obtain rfl : k128 = 0 := by omega
                  obtain ⟨hN134, g133, eV132, hf135⟩ := hq_o21 hP.1 (hr_12 hR)
                  refine hp_iald hx hb hZ eV132 (hq_in (by omega) (by omega)) dX13_become_209 ?_
                  refine lv_topi (fun y136 ey137 => ?_)
                  have b138 := hq_rng y136
                  refine hp_iast hx hb hZ eV132 (hq_in (by omega) (by omega)) dX13_become_210 (fun V139 _ _ e140 o141 hZ => ?_)
                  have e140 : V139 (q + 12) = some (.inl (cs 1, 120, .inl (upd (g133) ((i : Int32).toNatClampNeg) (y136)))) := e140
                  have hP := hP.put (hr_12 hR) e140 o141 (hq_c21 (by omega) (hq_upd hf135 (hq_rng _))) rfl
                  refine lv_aload_n hx hb dX13_become_211 rfl (lv_at hl 1 rfl) ?_
                  have fx142 : V139 (mo) = some (.inr (13, hm_o q (m_tp) (m_sz) (m_fr) (m_bh) (m_hd) (m_ft) (m_fa) (m_le) (m_fo) (m_as) (m_fd) (m_bc) (m_bg) (m_bs) (m_be) (m_b0) (m_b1) (m_cm) (m_hc))) := (o141 (mo) (hq_tne h_mo (hr_12 hR) (by simp))).trans (fx125)
                  refine hp_get (v := .ref (q + 13)) hx hb hts hown hZ fx142 fl_X13_38 rfl dX13_become_212 ?_
                  refine lv_iload_n hx hb dX13_become_215 rfl (lv_at hl 0 rfl) ?_
                  refine lv_aload_n hx hb dX13_become_216 rfl (lv_at hl 1 rfl) ?_
                  refine hp_get (v := .ref (q + 13)) hx hb hts hown hZ fx142 fl_X13_38 rfl dX13_become_217 ?_
                  refine lv_bipush (v := 60) hx hb dX13_become_220 (by decide) ?_
                  refine lv_iload_n hx hb dX13_become_222 rfl (lv_at hl 0 rfl) ?_
                  refine lv_iadd hx hb dX13_become_223 ?_
                  refine lv_topi (fun y143 ey144 => ?_)
                  obtain ⟨k145, hk146, b147, b148⟩ := hq_add (60) (i)
                  rw [← ey144] at hk146 b147 b148
                  have hk146 : (y143).toInt = (60 : Int) + (i).toInt + k145 * 4294967296 := hk146
                  obtain rfl : k145 = 0 := by omega
                  obtain ⟨hN151, g150, eV149, hf152⟩ := hq_o21 hP.1 (hr_13 hR)
                  refine hp_iald hx hb hZ eV149 (hq_in (by omega) (by omega)) dX13_become_224 ?_
                  refine lv_topi (fun y153 ey154 => ?_)
                  have b155 := hq_rng y153
                  refine hp_iast hx hb hZ eV149 (hq_in (by omega) (by omega)) dX13_become_225 (fun V156 _ _ e157 o158 hZ => ?_)
                  have e157 : V156 (q + 13) = some (.inl (cs 1, 120, .inl (upd (g150) ((i : Int32).toNatClampNeg) (y153)))) := e157
                  have hP := hP.put (hr_13 hR) e157 o158 (hq_c21 (by omega) (hq_upd hf152 (hq_rng _))) rfl
                  refine lv_aload_n hx hb dX13_become_226 rfl (lv_at hl 1 rfl) ?_
                  have fx159 : V156 (mo) = some (.inr (13, hm_o q (m_tp) (m_sz) (m_fr) (m_bh) (m_hd) (m_ft) (m_fa) (m_le) (m_fo) (m_as) (m_fd) (m_bc) (m_bg) (m_bs) (m_be) (m_b0) (m_b1) (m_cm) (m_hc))) := (o158 (mo) (hq_tne h_mo (hr_13 hR) (by simp))).trans (fx142)
                  refine hp_get (v := .ref (q + 14)) hx hb hts hown hZ fx159 fl_X13_41 rfl dX13_become_227 ?_
                  refine lv_iload_n hx hb dX13_become_230 rfl (lv_at hl 0 rfl) ?_
                  refine lv_aload_n hx hb dX13_become_231 rfl (lv_at hl 1 rfl) ?_
                  refine hp_get (v := .ref (q + 14)) hx hb hts hown hZ fx159 fl_X13_41 rfl dX13_become_232 ?_
                  refine lv_bipush (v := 60) hx hb dX13_become_235 (by decide) ?_
                  refine lv_iload_n hx hb dX13_become_237 rfl (lv_at hl 0 rfl) ?_
                  refine lv_iadd hx hb dX13_become_238 ?_
                  refine lv_topi (fun y160 ey161 => ?_)
                  obtain ⟨k162, hk163, b164, b165⟩ := hq_add (60) (i)
                  rw [← ey161] at hk163 b164 b165
                  have hk163 : (y160).toInt = (60 : Int) + (i).toInt + k162 * 4294967296 := hk163
                  obtain rfl : k162 = 0 := by omega
                  have fx166 : V156 (q + 14) = some (.inl (cs 1, 120, .inl (fs9))) := (o158 (q + 14) (hq_ne q 14 13 (by decide))).trans ((o141 (q + 14) (hq_ne q 14 12 (by decide))).trans ((o124 (q + 14) (hq_ne q 14 11 (by decide))).trans ((o102 (q + 14) (hq_ne q 14 10 (by decide))).trans (ho81))))
                  refine hp_iald hx hb hZ fx166 (hq_in (by omega) (by omega)) dX13_become_239 ?_
                  refine lv_topi (fun y167 ey168 => ?_)
                  have b169 : hq_ir (hq_lo 1) (hq_hi 1) y167 := by rw [ey168]; exact hf86 _ (hq_ix (by omega) (by omega))
                  have b169 : 0 ≤ (y167).toInt ∧ (y167).toInt ≤ 8 := b169
                  refine hp_iast hx hb hZ fx166 (hq_in (by omega) (by omega)) dX13_become_240 (fun V170 _ _ e171 o172 hZ => ?_)
                  have e171 : V170 (q + 14) = some (.inl (cs 1, 120, .inl (upd (fs9) ((i : Int32).toNatClampNeg) (y167)))) := e171
                  have hP := hP.put (hr_14 hR) e171 o172 (hq_c21 (by omega) (hq_upd hf86 (show 0 ≤ _ ∧ _ ≤ 8 by constructor <;> omega))) rfl
                  obtain ⟨g173, ge174⟩ : ∃ g9 : Nat → Int32, g9 = upd (fs9) ((i : Int32).toNatClampNeg) (y167) := ⟨_, rfl⟩
                  have fx176 : V170 (q + 14) = some (.inl (cs 1, 120, .inl (g173))) := by rw [ge174]; exact e171
                  have hf175 := hq_rg hP.1 (hr_14 hR) fx176
                  have b177 : (g173 (i : Int32).toNatClampNeg).toInt = (y167 : Int32).toInt := congrArg Int32.toInt ((congrFun ge174 _).trans hm_ue)
                  refine lv_aload_n hx hb dX13_become_241 rfl (lv_at hl 1 rfl) ?_
                  have fx178 : V170 (mo) = some (.inr (13, hm_o q (m_tp) (m_sz) (m_fr) (m_bh) (m_hd) (m_ft) (m_fa) (m_le) (m_fo) (m_as) (m_fd) (m_bc) (m_bg) (m_bs) (m_be) (m_b0) (m_b1) (m_cm) (m_hc))) := (o172 (mo) (hq_tne h_mo (hr_14 hR) (by simp))).trans (fx159)
                  refine hp_get (v := .ref (q + 15)) hx hb hts hown hZ fx178 fl_X13_44 rfl dX13_become_242 ?_
                  refine lv_iload_n hx hb dX13_become_245 rfl (lv_at hl 0 rfl) ?_
                  refine lv_aload_n hx hb dX13_become_246 rfl (lv_at hl 1 rfl) ?_
                  refine hp_get (v := .ref (q + 15)) hx hb hts hown hZ fx178 fl_X13_44 rfl dX13_become_247 ?_
                  refine lv_bipush (v := 60) hx hb dX13_become_250 (by decide) ?_
                  refine lv_iload_n hx hb dX13_become_252 rfl (lv_at hl 0 rfl) ?_
                  refine lv_iadd hx hb dX13_become_253 ?_
                  refine lv_topi (fun y179 ey180 => ?_)
                  obtain ⟨k181, hk182, b183, b184⟩ := hq_add (60) (i)
                  rw [← ey180] at hk182 b183 b184
                  have hk182 : (y179).toInt = (60 : Int) + (i).toInt + k181 * 4294967296 := hk182
                  obtain rfl : k181 = 0 := by omega
                  obtain ⟨hN187, g186, eV185, hf188⟩ := hq_o21 hP.1 (hr_15 hR)
                  refine hp_iald hx hb hZ eV185 (hq_in (by omega) (by omega)) dX13_become_254 ?_
                  refine lv_topi (fun y189 ey190 => ?_)
                  have b191 : hq_ir (hq_lo 1) (hq_hi 1) y189 := by rw [ey190]; exact hf188 _ (hq_ix (by omega) (by omega))
                  have b191 : 0 ≤ (y189).toInt ∧ (y189).toInt ≤ 8 := b191
                  refine hp_iast hx hb hZ eV185 (hq_in (by omega) (by omega)) dX13_become_255 (fun V192 _ _ e193 o194 hZ => ?_)
                  have e193 : V192 (q + 15) = some (.inl (cs 1, 120, .inl (upd (g186) ((i : Int32).toNatClampNeg) (y189)))) := e193
                  have hP := hP.put (hr_15 hR) e193 o194 (hq_c21 (by omega) (hq_upd hf188 (show 0 ≤ _ ∧ _ ≤ 8 by constructor <;> omega))) rfl
                  refine lv_aload_n hx hb dX13_become_256 rfl (lv_at hl 1 rfl) ?_
                  have fx195 : V192 (mo) = some (.inr (13, hm_o q (m_tp) (m_sz) (m_fr) (m_bh) (m_hd) (m_ft) (m_fa) (m_le) (m_fo) (m_as) (m_fd) (m_bc) (m_bg) (m_bs) (m_be) (m_b0) (m_b1) (m_cm) (m_hc))) := (o194 (mo) (hq_tne h_mo (hr_15 hR) (by simp))).trans (fx178)
                  refine hp_get (v := .ref (q + 16)) hx hb hts hown hZ fx195 fl_X13_47 rfl dX13_become_257 ?_
                  refine lv_iload_n hx hb dX13_become_260 rfl (lv_at hl 0 rfl) ?_
                  refine lv_aload_n hx hb dX13_become_261 rfl (lv_at hl 1 rfl) ?_
                  refine hp_get (v := .ref (q + 16)) hx hb hts hown hZ fx195 fl_X13_47 rfl dX13_become_262 ?_
                  refine lv_bipush (v := 60) hx hb dX13_become_265 (by decide) ?_
                  refine lv_iload_n hx hb dX13_become_267 rfl (lv_at hl 0 rfl) ?_
                  refine lv_iadd hx hb dX13_become_268 ?_
                  refine lv_topi (fun y196 ey197 => ?_)
                  obtain ⟨k198, hk199, b200, b201⟩ := hq_add (60) (i)
                  rw [← ey197] at hk199 b200 b201
                  have hk199 : (y196).toInt = (60 : Int) + (i).toInt + k198 * 4294967296 := hk199
                  obtain rfl : k198 = 0 := by omega
                  obtain ⟨hN204, g203, eV202, hf205⟩ := hq_o21 hP.1 (hr_16 hR)
                  refine hp_iald hx hb hZ eV202 (hq_in (by omega) (by omega)) dX13_become_269 ?_
                  refine lv_topi (fun y206 ey207 => ?_)
                  have b208 : hq_ir (hq_lo 3) (hq_hi 3) y206 := by rw [ey207]; exact hf205 _ (hq_ix (by omega) (by omega))
                  have b208 : 0 ≤ (y206).toInt ∧ (y206).toInt ≤ 29 := b208
                  refine hp_iast hx hb hZ eV202 (hq_in (by omega) (by omega)) dX13_become_270 (fun V209 _ _ e210 o211 hZ => ?_)
                  have e210 : V209 (q + 16) = some (.inl (cs 1, 120, .inl (upd (g203) ((i : Int32).toNatClampNeg) (y206)))) := e210
                  have hP := hP.put (hr_16 hR) e210 o211 (hq_c21 (by omega) (hq_upd hf205 (show 0 ≤ _ ∧ _ ≤ 29 by constructor <;> omega))) rfl
                  refine lv_aload_n hx hb dX13_become_271 rfl (lv_at hl 1 rfl) ?_
                  have fx212 : V209 (mo) = some (.inr (13, hm_o q (m_tp) (m_sz) (m_fr) (m_bh) (m_hd) (m_ft) (m_fa) (m_le) (m_fo) (m_as) (m_fd) (m_bc) (m_bg) (m_bs) (m_be) (m_b0) (m_b1) (m_cm) (m_hc))) := (o211 (mo) (hq_tne h_mo (hr_16 hR) (by simp))).trans (fx195)
                  refine hp_get (v := .ref (q + 17)) hx hb hts hown hZ fx212 fl_X13_50 rfl dX13_become_272 ?_
                  refine lv_iload_n hx hb dX13_become_275 rfl (lv_at hl 0 rfl) ?_
                  refine lv_aload_n hx hb dX13_become_276 rfl (lv_at hl 1 rfl) ?_
                  refine hp_get (v := .ref (q + 17)) hx hb hts hown hZ fx212 fl_X13_50 rfl dX13_become_277 ?_
                  refine lv_bipush (v := 60) hx hb dX13_become_280 (by decide) ?_
                  refine lv_iload_n hx hb dX13_become_282 rfl (lv_at hl 0 rfl) ?_
                  refine lv_iadd hx hb dX13_become_283 ?_
                  refine lv_topi (fun y213 ey214 => ?_)
                  obtain ⟨k215, hk216, b217, b218⟩ := hq_add (60) (i)
                  rw [← ey214] at hk216 b217 b218
                  have hk216 : (y213).toInt = (60 : Int) + (i).toInt + k215 * 4294967296 := hk216
                  obtain rfl : k215 = 0 := by omega
                  obtain ⟨hN221, g220, eV219, hf222⟩ := hq_o21 hP.1 (hr_17 hR)
                  refine hp_iald hx hb hZ eV219 (hq_in (by omega) (by omega)) dX13_become_284 ?_
                  refine lv_topi (fun y223 ey224 => ?_)
                  have b225 := hq_rng y223
                  refine hp_iast hx hb hZ eV219 (hq_in (by omega) (by omega)) dX13_become_285 (fun V226 _ _ e227 o228 hZ => ?_)
                  have e227 : V226 (q + 17) = some (.inl (cs 1, 120, .inl (upd (g220) ((i : Int32).toNatClampNeg) (y223)))) := e227
                  have hP := hP.put (hr_17 hR) e227 o228 (hq_c21 (by omega) (hq_upd hf222 (hq_rng _))) rfl
                  refine lv_aload_n hx hb dX13_become_286 rfl (lv_at hl 1 rfl) ?_
                  have fx229 : V226 (mo) = some (.inr (13, hm_o q (m_tp) (m_sz) (m_fr) (m_bh) (m_hd) (m_ft) (m_fa) (m_le) (m_fo) (m_as) (m_fd) (m_bc) (m_bg) (m_bs) (m_be) (m_b0) (m_b1) (m_cm) (m_hc))) := (o228 (mo) (hq_tne h_mo (hr_17 hR) (by simp))).trans (fx212)
                  refine hp_get (v := .ref (q + 18)) hx hb hts hown hZ fx229 fl_X13_53 rfl dX13_become_287 ?_
                  refine lv_iload_n hx hb dX13_become_290 rfl (lv_at hl 0 rfl) ?_
                  refine lv_aload_n hx hb dX13_become_291 rfl (lv_at hl 1 rfl) ?_
                  refine hp_get (v := .ref (q + 18)) hx hb hts hown hZ fx229 fl_X13_53 rfl dX13_become_292 ?_
                  refine lv_bipush (v := 60) hx hb dX13_become_295 (by decide) ?_
                  refine lv_iload_n hx hb dX13_become_297 rfl (lv_at hl 0 rfl) ?_
                  refine lv_iadd hx hb dX13_become_298 ?_
                  refine lv_topi (fun y230 ey231 => ?_)
                  obtain ⟨k232, hk233, b234, b235⟩ := hq_add (60) (i)
                  rw [← ey231] at hk233 b234 b235
                  have hk233 : (y230).toInt = (60 : Int) + (i).toInt + k232 * 4294967296 := hk233
                  obtain rfl : k232 = 0 := by omega
                  obtain ⟨hN238, g237, eV236, hf239⟩ := hq_o21 hP.1 (hr_18 hR)
                  refine hp_iald hx hb hZ eV236 (hq_in (by omega) (by omega)) dX13_become_299 ?_
                  refine lv_topi (fun y240 ey241 => ?_)
                  have b242 := hq_rng y240
                  refine hp_iast hx hb hZ eV236 (hq_in (by omega) (by omega)) dX13_become_300 (fun V243 _ _ e244 o245 hZ => ?_)
                  have e244 : V243 (q + 18) = some (.inl (cs 1, 120, .inl (upd (g237) ((i : Int32).toNatClampNeg) (y240)))) := e244
                  have hP := hP.put (hr_18 hR) e244 o245 (hq_c21 (by omega) (hq_upd hf239 (hq_rng _))) rfl
                  obtain ⟨y246, ey247⟩ : ∃ y : Int32, y = i + (1) := ⟨_, rfl⟩
                  obtain ⟨k248, hk249, b250, b251⟩ := hq_add (i) (1)
                  rw [← ey247] at hk249 b250 b251
                  have hk249 : (y246).toInt = (i).toInt + (1) + k248 * 4294967296 := hk249
                  refine lv_iinc (v := y246) (lv' := [(1, .int (y246)), (0, .ref (mo))]) hx hb dX13_become_301 hl (k := 0) rfl (by rw [ey247]; rfl) (by decide) rfl (fun ls hl => ?_)
                  refine lv_goto (tgt := 160) hx hb dX13_become_304 (by decide) ?_
                  have fx252 : V243 (q + 10) = some (.inl (cs 1, 120, .inl (g103))) := (o245 (q + 10) (hq_ne q 10 18 (by decide))).trans ((o228 (q + 10) (hq_ne q 10 17 (by decide))).trans ((o211 (q + 10) (hq_ne q 10 16 (by decide))).trans ((o194 (q + 10) (hq_ne q 10 15 (by decide))).trans ((o172 (q + 10) (hq_ne q 10 14 (by decide))).trans ((o158 (q + 10) (hq_ne q 10 13 (by decide))).trans ((o141 (q + 10) (hq_ne q 10 12 (by decide))).trans ((o124 (q + 10) (hq_ne q 10 11 (by decide))).trans (fx106))))))))
                  have fx253 : V243 (q + 14) = some (.inl (cs 1, 120, .inl (g173))) := (o245 (q + 14) (hq_ne q 14 18 (by decide))).trans ((o228 (q + 14) (hq_ne q 14 17 (by decide))).trans ((o211 (q + 14) (hq_ne q 14 16 (by decide))).trans ((o194 (q + 14) (hq_ne q 14 15 (by decide))).trans (fx176))))
                  have fx254 : V243 (q + 2) = some (.inl (cs 1, 2, .inl (g42))) := (o245 (q + 2) (hq_ne q 2 18 (by decide))).trans ((o228 (q + 2) (hq_ne q 2 17 (by decide))).trans ((o211 (q + 2) (hq_ne q 2 16 (by decide))).trans ((o194 (q + 2) (hq_ne q 2 15 (by decide))).trans ((o172 (q + 2) (hq_ne q 2 14 (by decide))).trans ((o158 (q + 2) (hq_ne q 2 13 (by decide))).trans ((o141 (q + 2) (hq_ne q 2 12 (by decide))).trans ((o124 (q + 2) (hq_ne q 2 11 (by decide))).trans ((o102 (q + 2) (hq_ne q 2 10 (by decide))).trans (ho82)))))))))
                  exact ih160 _ (by omega) _ _ _ ls (y246) (g103) (g173) rfl hZ hP fx252 fx253 fx254 (by omega) (by omega) (hm_B.step (a := y91) (c := y160) hvb (by omega) (by omega) (by omega) (by omega) ey98 ey168 ge104 ge174 (by omega)) (lv_sub hl [0, 1] rfl)
            · have c78 : ¬ (480 : Int) ≤ (i).toInt := fun h9 => c78 (hq_lei.mpr h9)
              refine lv_aload_n hx hb dX13_become_120 rfl (lv_at hl 1 rfl) ?_
              have fx255 : V9 (mo) = some (.inr (13, hm_o q (m_tp) (m_sz) (m_fr) (m_bh) (m_hd) (m_ft) (m_fa) (m_le) (m_fo) (m_as) (m_fd) (m_bc) (m_bg) (m_bs) (m_be) (m_b0) (m_b1) (m_cm) (m_hc))) := (hP_113.2 (mo) _ h_mo rfl).trans (ho_mo)
              refine hp_get (v := .ref (q + 5)) hx hb hts hown hZ fx255 fl_X13_23 rfl dX13_become_121 ?_
              refine lv_iload_n hx hb dX13_become_124 rfl (lv_at hl 0 rfl) ?_
              refine lv_aload_n hx hb dX13_become_125 rfl (lv_at hl 1 rfl) ?_
              refine hp_get (v := .ref (q + 5)) hx hb hts hown hZ fx255 fl_X13_23 rfl dX13_become_126 ?_
              refine lv_sipush (v := 480) hx hb dX13_become_129 (by decide) ?_
              refine lv_iload_n hx hb dX13_become_132 rfl (lv_at hl 0 rfl) ?_
              refine lv_iadd hx hb dX13_become_133 ?_
              refine lv_topi (fun y256 ey257 => ?_)
              obtain ⟨k258, hk259, b260, b261⟩ := hq_add (480) (i)
              rw [← ey257] at hk259 b260 b261
              have hk259 : (y256).toInt = (480 : Int) + (i).toInt + k258 * 4294967296 := hk259
              obtain rfl : k258 = 0 := by omega
              obtain ⟨hN264, g263, eV262⟩ := hq_o20 hP.1 (hr_5 hR)
              refine hp_bald hx hb hZ eV262 (hq_in (by omega) (by omega)) dX13_become_134 ?_
              refine lv_topi (fun y266 ey267 => ?_)
              have b268 := hq_rng y266
              refine hp_bast hx hb hZ eV262 (hq_in (by omega) (by omega)) dX13_become_135 (fun V269 _ _ e270 o271 hZ => ?_)
              have e270 : V269 (q + 5) = some (.inl (cs 0, 960, .inl (upd (g263) ((i : Int32).toNatClampNeg) ((y266 : Int32).toInt8.toInt32)))) := e270
              have hP := hP.put (hr_5 hR) e270 o271 (hq_c20 (by omega)) rfl
              refine lv_aload_n hx hb dX13_become_136 rfl (lv_at hl 1 rfl) ?_
              have fx272 : V269 (mo) = some (.inr (13, hm_o q (m_tp) (m_sz) (m_fr) (m_bh) (m_hd) (m_ft) (m_fa) (m_le) (m_fo) (m_as) (m_fd) (m_bc) (m_bg) (m_bs) (m_be) (m_b0) (m_b1) (m_cm) (m_hc))) := (o271 (mo) (hq_tne h_mo (hr_5 hR) (by simp))).trans (fx255)
              refine hp_get (v := .ref (q + 6)) hx hb hts hown hZ fx272 fl_X13_26 rfl dX13_become_137 ?_
              refine lv_iload_n hx hb dX13_become_140 rfl (lv_at hl 0 rfl) ?_
              refine lv_aload_n hx hb dX13_become_141 rfl (lv_at hl 1 rfl) ?_
              refine hp_get (v := .ref (q + 6)) hx hb hts hown hZ fx272 fl_X13_26 rfl dX13_become_142 ?_
              refine lv_sipush (v := 480) hx hb dX13_become_145 (by decide) ?_
              refine lv_iload_n hx hb dX13_become_148 rfl (lv_at hl 0 rfl) ?_
              refine lv_iadd hx hb dX13_become_149 ?_
              refine lv_topi (fun y273 ey274 => ?_)
              obtain ⟨k275, hk276, b277, b278⟩ := hq_add (480) (i)
              rw [← ey274] at hk276 b277 b278
              have hk276 : (y273).toInt = (480 : Int) + (i).toInt + k275 * 4294967296 := hk276
              obtain rfl : k275 = 0 := by omega
              obtain ⟨hN281, g280, eV279⟩ := hq_o20 hP.1 (hr_6 hR)
              refine hp_bald hx hb hZ eV279 (hq_in (by omega) (by omega)) dX13_become_150 ?_
              refine lv_topi (fun y283 ey284 => ?_)
              have b285 := hq_rng y283
              refine hp_bast hx hb hZ eV279 (hq_in (by omega) (by omega)) dX13_become_151 (fun V286 _ _ e287 o288 hZ => ?_)
              have e287 : V286 (q + 6) = some (.inl (cs 0, 960, .inl (upd (g280) ((i : Int32).toNatClampNeg) ((y283 : Int32).toInt8.toInt32)))) := e287
              have hP := hP.put (hr_6 hR) e287 o288 (hq_c20 (by omega)) rfl
              obtain ⟨y289, ey290⟩ : ∃ y : Int32, y = i + (1) := ⟨_, rfl⟩
              obtain ⟨k291, hk292, b293, b294⟩ := hq_add (i) (1)
              rw [← ey290] at hk292 b293 b294
              have hk292 : (y289).toInt = (i).toInt + (1) + k291 * 4294967296 := hk292
              refine lv_iinc (v := y289) (lv' := [(1, .int (y289)), (0, .ref (mo))]) hx hb dX13_become_152 hl (k := 0) rfl (by rw [ey290]; rfl) (by decide) rfl (fun ls hl => ?_)
              refine lv_goto (tgt := 113) hx hb dX13_become_155 (by decide) ?_
              have fx295 : V286 (q + 10) = some (.inl (cs 1, 120, .inl (g2))) := (o288 (q + 10) (hq_ne q 10 6 (by decide))).trans ((o271 (q + 10) (hq_ne q 10 5 (by decide))).trans (ho70))
              have fx296 : V286 (q + 14) = some (.inl (cs 1, 120, .inl (g6))) := (o288 (q + 14) (hq_ne q 14 6 (by decide))).trans ((o271 (q + 14) (hq_ne q 14 5 (by decide))).trans (ho71))
              have fx297 : V286 (q + 2) = some (.inl (cs 1, 2, .inl (g42))) := (o288 (q + 2) (hq_ne q 2 6 (by decide))).trans ((o271 (q + 2) (hq_ne q 2 5 (by decide))).trans (ho72))
              exact ih113 _ (by omega) _ _ _ ls (y289) rfl hZ hP fx295 fx296 fx297 (by omega) (by omega) (lv_sub hl [0, 1] rfl)
        · have c68 : ¬ (360 : Int) ≤ (i).toInt := fun h9 => c68 (hq_lei.mpr h9)
          refine lv_aload_n hx hb dX13_become_89 rfl (lv_at hl 1 rfl) ?_
          have fx298 : V9 (mo) = some (.inr (13, hm_o q (m_tp) (m_sz) (m_fr) (m_bh) (m_hd) (m_ft) (m_fa) (m_le) (m_fo) (m_as) (m_fd) (m_bc) (m_bg) (m_bs) (m_be) (m_b0) (m_b1) (m_cm) (m_hc))) := (hP_82.2 (mo) _ h_mo rfl).trans (ho_mo)
          refine hp_get (v := .ref (q + 4)) hx hb hts hown hZ fx298 fl_X13_19 rfl dX13_become_90 ?_
          refine lv_iload_n hx hb dX13_become_93 rfl (lv_at hl 0 rfl) ?_
          refine lv_aload_n hx hb dX13_become_94 rfl (lv_at hl 1 rfl) ?_
          refine hp_get (v := .ref (q + 4)) hx hb hts hown hZ fx298 fl_X13_19 rfl dX13_become_95 ?_
          refine lv_sipush (v := 360) hx hb dX13_become_98 (by decide) ?_
          refine lv_iload_n hx hb dX13_become_101 rfl (lv_at hl 0 rfl) ?_
          refine lv_iadd hx hb dX13_become_102 ?_
          refine lv_topi (fun y299 ey300 => ?_)
          obtain ⟨k301, hk302, b303, b304⟩ := hq_add (360) (i)
          rw [← ey300] at hk302 b303 b304
          have hk302 : (y299).toInt = (360 : Int) + (i).toInt + k301 * 4294967296 := hk302
          obtain rfl : k301 = 0 := by omega
          obtain ⟨hN307, g306, eV305⟩ := hq_o20 hP.1 (hr_4 hR)
          refine hp_bald hx hb hZ eV305 (hq_in (by omega) (by omega)) dX13_become_103 ?_
          refine lv_topi (fun y309 ey310 => ?_)
          have b311 := hq_rng y309
          refine hp_bast hx hb hZ eV305 (hq_in (by omega) (by omega)) dX13_become_104 (fun V312 _ _ e313 o314 hZ => ?_)
          have e313 : V312 (q + 4) = some (.inl (cs 0, 720, .inl (upd (g306) ((i : Int32).toNatClampNeg) ((y309 : Int32).toInt8.toInt32)))) := e313
          have hP := hP.put (hr_4 hR) e313 o314 (hq_c20 (by omega)) rfl
          obtain ⟨y315, ey316⟩ : ∃ y : Int32, y = i + (1) := ⟨_, rfl⟩
          obtain ⟨k317, hk318, b319, b320⟩ := hq_add (i) (1)
          rw [← ey316] at hk318 b319 b320
          have hk318 : (y315).toInt = (i).toInt + (1) + k317 * 4294967296 := hk318
          refine lv_iinc (v := y315) (lv' := [(1, .int (y315)), (0, .ref (mo))]) hx hb dX13_become_105 hl (k := 0) rfl (by rw [ey316]; rfl) (by decide) rfl (fun ls hl => ?_)
          refine lv_goto (tgt := 82) hx hb dX13_become_108 (by decide) ?_
          have fx321 : V312 (q + 10) = some (.inl (cs 1, 120, .inl (g2))) := (o314 (q + 10) (hq_ne q 10 4 (by decide))).trans (ho60)
          have fx322 : V312 (q + 14) = some (.inl (cs 1, 120, .inl (g6))) := (o314 (q + 14) (hq_ne q 14 4 (by decide))).trans (ho61)
          have fx323 : V312 (q + 2) = some (.inl (cs 1, 2, .inl (g42))) := (o314 (q + 2) (hq_ne q 2 4 (by decide))).trans (ho62)
          exact ih82 _ (by omega) _ _ _ ls (y315) rfl hZ hP fx321 fx322 fx323 (by omega) (by omega) (lv_sub hl [0, 1] rfl)
    · have c58 : ¬ (30 : Int) ≤ (i).toInt := fun h9 => c58 (hq_lei.mpr h9)
      refine lv_aload_n hx hb dX13_become_44 rfl (lv_at hl 1 rfl) ?_
      have fx324 : V9 (mo) = some (.inr (13, hm_o q (m_tp) (m_sz) (m_fr) (m_bh) (m_hd) (m_ft) (m_fa) (m_le) (m_fo) (m_as) (m_fd) (m_bc) (m_bg) (m_bs) (m_be) (m_b0) (m_b1) (m_cm) (m_hc))) := (hP_38.2 (mo) _ h_mo rfl).trans (ho_mo)
      refine hp_get (v := .ref (q + 8)) hx hb hts hown hZ fx324 fl_X13_13 rfl dX13_become_45 ?_
      refine lv_iload_n hx hb dX13_become_48 rfl (lv_at hl 0 rfl) ?_
      refine lv_aload_n hx hb dX13_become_49 rfl (lv_at hl 1 rfl) ?_
      refine hp_get (v := .ref (q + 8)) hx hb hts hown hZ fx324 fl_X13_13 rfl dX13_become_50 ?_
      refine lv_bipush (v := 30) hx hb dX13_become_53 (by decide) ?_
      refine lv_iload_n hx hb dX13_become_55 rfl (lv_at hl 0 rfl) ?_
      refine lv_iadd hx hb dX13_become_56 ?_
      refine lv_topi (fun y325 ey326 => ?_)
      obtain ⟨k327, hk328, b329, b330⟩ := hq_add (30) (i)
      rw [← ey326] at hk328 b329 b330
      have hk328 : (y325).toInt = (30 : Int) + (i).toInt + k327 * 4294967296 := hk328
      obtain rfl : k327 = 0 := by omega
      obtain ⟨hN333, g332, eV331, hf334⟩ := hq_o21 hP.1 (hr_8 hR)
      refine hp_iald hx hb hZ eV331 (hq_in (by omega) (by omega)) dX13_become_57 ?_
      refine lv_topi (fun y335 ey336 => ?_)
      have b337 : hq_ir (hq_lo 2) (hq_hi 2) y335 := by rw [ey336]; exact hf334 _ (hq_ix (by omega) (by omega))
      have b337 : 0 ≤ (y335).toInt ∧ (y335).toInt ≤ 12 := b337
      refine hp_iast hx hb hZ eV331 (hq_in (by omega) (by omega)) dX13_become_58 (fun V338 _ _ e339 o340 hZ => ?_)
      have e339 : V338 (q + 8) = some (.inl (cs 1, 60, .inl (upd (g332) ((i : Int32).toNatClampNeg) (y335)))) := e339
      have hP := hP.put (hr_8 hR) e339 o340 (hq_c21 (by omega) (hq_upd hf334 (show 0 ≤ _ ∧ _ ≤ 12 by constructor <;> omega))) rfl
      refine lv_aload_n hx hb dX13_become_59 rfl (lv_at hl 1 rfl) ?_
      have fx341 : V338 (mo) = some (.inr (13, hm_o q (m_tp) (m_sz) (m_fr) (m_bh) (m_hd) (m_ft) (m_fa) (m_le) (m_fo) (m_as) (m_fd) (m_bc) (m_bg) (m_bs) (m_be) (m_b0) (m_b1) (m_cm) (m_hc))) := (o340 (mo) (hq_tne h_mo (hr_8 hR) (by simp))).trans (fx324)
      refine hp_get (v := .ref (q + 9)) hx hb hts hown hZ fx341 fl_X13_16 rfl dX13_become_60 ?_
      refine lv_iload_n hx hb dX13_become_63 rfl (lv_at hl 0 rfl) ?_
      refine lv_aload_n hx hb dX13_become_64 rfl (lv_at hl 1 rfl) ?_
      refine hp_get (v := .ref (q + 9)) hx hb hts hown hZ fx341 fl_X13_16 rfl dX13_become_65 ?_
      refine lv_bipush (v := 30) hx hb dX13_become_68 (by decide) ?_
      refine lv_iload_n hx hb dX13_become_70 rfl (lv_at hl 0 rfl) ?_
      refine lv_iadd hx hb dX13_become_71 ?_
      refine lv_topi (fun y342 ey343 => ?_)
      obtain ⟨k344, hk345, b346, b347⟩ := hq_add (30) (i)
      rw [← ey343] at hk345 b346 b347
      have hk345 : (y342).toInt = (30 : Int) + (i).toInt + k344 * 4294967296 := hk345
      obtain rfl : k344 = 0 := by omega
      obtain ⟨hN350, g349, eV348, hf351⟩ := hq_o21 hP.1 (hr_9 hR)
      refine hp_iald hx hb hZ eV348 (hq_in (by omega) (by omega)) dX13_become_72 ?_
      refine lv_topi (fun y352 ey353 => ?_)
      have b354 := hq_rng y352
      refine hp_iast hx hb hZ eV348 (hq_in (by omega) (by omega)) dX13_become_73 (fun V355 _ _ e356 o357 hZ => ?_)
      have e356 : V355 (q + 9) = some (.inl (cs 1, 60, .inl (upd (g349) ((i : Int32).toNatClampNeg) (y352)))) := e356
      have hP := hP.put (hr_9 hR) e356 o357 (hq_c21 (by omega) (hq_upd hf351 (hq_rng _))) rfl
      obtain ⟨y358, ey359⟩ : ∃ y : Int32, y = i + (1) := ⟨_, rfl⟩
      obtain ⟨k360, hk361, b362, b363⟩ := hq_add (i) (1)
      rw [← ey359] at hk361 b362 b363
      have hk361 : (y358).toInt = (i).toInt + (1) + k360 * 4294967296 := hk361
      refine lv_iinc (v := y358) (lv' := [(1, .int (y358)), (0, .ref (mo))]) hx hb dX13_become_74 hl (k := 0) rfl (by rw [ey359]; rfl) (by decide) rfl (fun ls hl => ?_)
      refine lv_goto (tgt := 38) hx hb dX13_become_77 (by decide) ?_
      have fx364 : V355 (q + 10) = some (.inl (cs 1, 120, .inl (g2))) := (o357 (q + 10) (hq_ne q 10 9 (by decide))).trans ((o340 (q + 10) (hq_ne q 10 8 (by decide))).trans (ho49))
      have fx365 : V355 (q + 14) = some (.inl (cs 1, 120, .inl (g6))) := (o357 (q + 14) (hq_ne q 14 9 (by decide))).trans ((o340 (q + 14) (hq_ne q 14 8 (by decide))).trans (ho51))
      have fx366 : V355 (q + 2) = some (.inl (cs 1, 2, .inl (g42))) := (o357 (q + 2) (hq_ne q 2 9 (by decide))).trans ((o340 (q + 2) (hq_ne q 2 8 (by decide))).trans (ho52))
      exact ih38 _ (by omega) _ _ _ ls (y358) rfl hZ hP fx364 fx365 fx366 (by omega) (by omega) (lv_sub hl [0, 1] rfl)

set_option maxHeartbeats 4000000 in
set_option maxRecDepth 100000 in
theorem t_X13_forget (l : Launch) (D : va_G) (cs : Nat → ClassId) (B : Nat) (G : hq_G) (V : hp_V) (n : Nat) (hI : hq_I cs G V) (q : Nat) (hR : hq_RT G q) (mo : Nat) (h_mo : G mo = some (24, 0, 0, 0)) {m_tp m_sz m_fr m_bh m_hd m_ft m_fa m_le m_fo m_as m_fd m_bc m_bg m_bs m_be m_b0 m_b1 m_cm m_hc : Int32} (ho_mo : V mo = some (.inr (13, hm_o q (m_tp) (m_sz) (m_fr) (m_bh) (m_hd) (m_ft) (m_fa) (m_le) (m_fo) (m_as) (m_fd) (m_bc) (m_bg) (m_bs) (m_be) (m_b0) (m_b1) (m_cm) (m_hc)))) (hi_mo0 : 0 ≤ m_tp.toInt ∧ m_tp.toInt ≤ 4000) (hi_mo1 : 0 ≤ m_sz.toInt ∧ m_sz.toInt ≤ 4000) (hi_mo2 : 0 ≤ m_le.toInt ∧ m_le.toInt ≤ 276) (hi_mo3 : 0 ≤ m_fo.toInt ∧ m_fo.toInt ≤ 4) (hi_mo4 : 0 ≤ m_as.toInt ∧ m_as.toInt ≤ 4000) (hi_mo5 : 0 ≤ m_fd.toInt ∧ m_fd.toInt ≤ 900) (hi_mo6 : 0 ≤ m_cm.toInt ∧ m_cm.toInt ≤ 2) (hi_mo7 : 0 ≤ m_hc.toInt ∧ m_hc.toInt ≤ 1) : hp_M l yX13_forget cX13_forget 2 none ({ frames := 1, cells := 0, slots := 0, locals := 21 }) D cs B V n [.ref (mo)] (hp_QV D cs B (fun V' n' => n = n' ∧ hq_P cs G (fun g => g.1 == 48) V V' ∧ (V' mo = some (.inr (13, hm_o q (m_tp) (m_sz) (m_fr) (m_bh) (m_hd) (m_ft) (m_fa) (m_le) (m_fo) (m_as) (m_fd) (m_bc) (m_bg) (m_bs) (m_be) (m_b0) (m_b1) (m_cm) (m_hc)))))) 0 0 := by
  refine hp_walk (R0 := RX13) (by decide) rfl ?_ (Nat.le_of_ble_eq_true rfl)
  intro p e s m below meth c ls hx hb hr hts hown hlocks hin hml hZ hl
  have hP : hq_P cs G (fun g => g.1 == 48) V V := hq_P.rf hI
  have hl : lv_has ls 2 [(0, .ref (mo))] := hl
  have hb_m_tp := hq_rng m_tp
  have hb_m_sz := hq_rng m_sz
  have hb_m_fr := hq_rng m_fr
  have hb_m_bh := hq_rng m_bh
  have hb_m_hd := hq_rng m_hd
  have hb_m_ft := hq_rng m_ft
  have hb_m_fa := hq_rng m_fa
  have hb_m_le := hq_rng m_le
  have hb_m_fo := hq_rng m_fo
  have hb_m_as := hq_rng m_as
  have hb_m_fd := hq_rng m_fd
  have hb_m_bc := hq_rng m_bc
  have hb_m_bg := hq_rng m_bg
  have hb_m_bs := hq_rng m_bs
  have hb_m_be := hq_rng m_be
  have hb_m_b0 := hq_rng m_b0
  have hb_m_b1 := hq_rng m_b1
  have hb_m_cm := hq_rng m_cm
  have hb_m_hc := hq_rng m_hc
  refine lv_iconst (v := 0) hx hb dX13_forget_0 (by decide) ?_
  refine lv_istore_n (lv' := [(1, .int (0)), (0, .ref (mo))]) hx hb dX13_forget_1 rfl hl (by decide) rfl (fun ls hl => ?_)
  have hl1 : (0 : Int32).toInt = 0 := by decide
  suffices lp2 : ∀ (k9 : Nat) (V9 : hp_V) (H9 : Heap) (locs9 : List Loc) (ls : Array Slot) (i : Int32), (1000 - i.toInt).toNat = k9 → hp_Z D cs B s V9 H9 n locs9 → hq_P cs G (fun g => g.1 == 48) V V9 → 0 ≤ i.toInt → i.toInt ≤ 480 → lv_has ls 2 [(1, .int (i)), (0, .ref (mo))] → W p l e ({ frames := 1, cells := 0, slots := 0, locals := 21 }) s m ([.ref (mo)] : List Value).toArray below meth c H9 locs9 0 0 (MQ below (hp_QV D cs B (fun V' n' => n = n' ∧ hq_P cs G (fun g => g.1 == 48) V V' ∧ (V' mo = some (.inr (13, hm_o q (m_tp) (m_sz) (m_fr) (m_bh) (m_hd) (m_ft) (m_fa) (m_le) (m_fo) (m_as) (m_fd) (m_bc) (m_bg) (m_bs) (m_be) (m_b0) (m_b1) (m_cm) (m_hc)))))) ([.ref (mo)] : List Value).toArray s 0 0 (hp_F B)) (F0 m 2 ls []) from lp2 _ _ _ _ ls (0) rfl hZ hP (by omega) (by omega) (lv_sub hl [0, 1] rfl)
  intro k9
  induction k9 using Nat.strongRecOn with
  | _ k9 ih2 =>
    intro V9 H9 locs9 ls i  hk2 hZ hP  hv2 hv3 hl
    have hb_i := hq_rng i
    have hP_2 := hP
    refine lv_iload_n hx hb dX13_forget_2 rfl (lv_at hl 0 rfl) ?_
    refine lv_sipush (v := 480) hx hb dX13_forget_3 (by decide) ?_
    refine lv_icmp_ge (tgt := 22) hx hb dX13_forget_6 (by decide) (fun c4 => ?_) (fun c4 => ?_)
    · have c4 : (480 : Int) ≤ (i).toInt := hq_lei.mp c4
      refine lv_iconst (v := 0) hx hb dX13_forget_22 (by decide) ?_
      refine lv_istore_n (lv' := [(1, .int (0)), (0, .ref (mo))]) hx hb dX13_forget_23 rfl hl (by decide) rfl (fun ls hl => ?_)
      have hl5 : (0 : Int32).toInt = 0 := by decide
      suffices lp24 : ∀ (k9 : Nat) (V9 : hp_V) (H9 : Heap) (locs9 : List Loc) (ls : Array Slot) (i : Int32), (1000 - i.toInt).toNat = k9 → hp_Z D cs B s V9 H9 n locs9 → hq_P cs G (fun g => g.1 == 48) V V9 → 0 ≤ i.toInt → i.toInt ≤ 24 → lv_has ls 2 [(1, .int (i)), (0, .ref (mo))] → W p l e ({ frames := 1, cells := 0, slots := 0, locals := 21 }) s m ([.ref (mo)] : List Value).toArray below meth c H9 locs9 0 0 (MQ below (hp_QV D cs B (fun V' n' => n = n' ∧ hq_P cs G (fun g => g.1 == 48) V V' ∧ (V' mo = some (.inr (13, hm_o q (m_tp) (m_sz) (m_fr) (m_bh) (m_hd) (m_ft) (m_fa) (m_le) (m_fo) (m_as) (m_fd) (m_bc) (m_bg) (m_bs) (m_be) (m_b0) (m_b1) (m_cm) (m_hc)))))) ([.ref (mo)] : List Value).toArray s 0 0 (hp_F B)) (F0 m 24 ls []) from lp24 _ _ _ _ ls (0) rfl hZ hP (by omega) (by omega) (lv_sub hl [0, 1] rfl)
      intro k9
      induction k9 using Nat.strongRecOn with
      | _ k9 ih24 =>
        intro V9 H9 locs9 ls i  hk24 hZ hP  hv6 hv7 hl
        have hb_i := hq_rng i
        have hP_24 := hP
        refine lv_iload_n hx hb dX13_forget_24 rfl (lv_at hl 0 rfl) ?_
        refine lv_bipush (v := 24) hx hb dX13_forget_25 (by decide) ?_
        refine lv_icmp_ge (tgt := 43) hx hb dX13_forget_27 (by decide) (fun c8 => ?_) (fun c8 => ?_)
        · have c8 : (24 : Int) ≤ (i).toInt := hq_lei.mp c8
          have fx9 : V9 (mo) = some (.inr (13, hm_o q (m_tp) (m_sz) (m_fr) (m_bh) (m_hd) (m_ft) (m_fa) (m_le) (m_fo) (m_as) (m_fd) (m_bc) (m_bg) (m_bs) (m_be) (m_b0) (m_b1) (m_cm) (m_hc))) := (hP_24.2 (mo) _ h_mo rfl).trans (ho_mo)
          exact hp_vret hx hb hr hlocks hZ ⟨rfl, hP, fx9⟩ dX13_forget_43
        · have c8 : ¬ (24 : Int) ≤ (i).toInt := fun h9 => c8 (hq_lei.mpr h9)
          refine lv_aload_n hx hb dX13_forget_30 rfl (lv_at hl 1 rfl) ?_
          have fx10 : V9 (mo) = some (.inr (13, hm_o q (m_tp) (m_sz) (m_fr) (m_bh) (m_hd) (m_ft) (m_fa) (m_le) (m_fo) (m_as) (m_fd) (m_bc) (m_bg) (m_bs) (m_be) (m_b0) (m_b1) (m_cm) (m_hc))) := (hP_24.2 (mo) _ h_mo rfl).trans (ho_mo)
          refine hp_get (v := .ref (q + 43)) hx hb hts hown hZ fx10 fl_X13_280 rfl dX13_forget_31 ?_
          refine lv_iload_n hx hb dX13_forget_34 rfl (lv_at hl 0 rfl) ?_
          refine lv_iconst (v := -1) hx hb dX13_forget_35 (by decide) ?_
          obtain ⟨hN13, g12, eV11, hf14⟩ := hq_o21 hP.1 (hr_43 hR)
          refine hp_iast hx hb hZ eV11 (hq_in (by omega) (by omega)) dX13_forget_36 (fun V15 _ _ e16 o17 hZ => ?_)
          have e16 : V15 (q + 43) = some (.inl (cs 1, 24, .inl (upd (g12) ((i : Int32).toNatClampNeg) (-1)))) := e16
          have hl18 : (-1 : Int32).toInt = -1 := by decide
          have hP := hP.put (hr_43 hR) e16 o17 (hq_c21 (by omega) (hq_upd hf14 (hq_rng _))) rfl
          obtain ⟨y19, ey20⟩ : ∃ y : Int32, y = i + (1) := ⟨_, rfl⟩
          obtain ⟨k21, hk22, b23, b24⟩ := hq_add (i) (1)
          rw [← ey20] at hk22 b23 b24
          have hk22 : (y19).toInt = (i).toInt + (1) + k21 * 4294967296 := hk22
          refine lv_iinc (v := y19) (lv' := [(1, .int (y19)), (0, .ref (mo))]) hx hb dX13_forget_37 hl (k := 0) rfl (by rw [ey20]; rfl) (by decide) rfl (fun ls hl => ?_)
          refine lv_goto (tgt := 24) hx hb dX13_forget_40 (by decide) ?_
          exact ih24 _ (by omega) _ _ _ ls (y19) rfl hZ hP (by omega) (by omega) (lv_sub hl [0, 1] rfl)
    · have c4 : ¬ (480 : Int) ≤ (i).toInt := fun h9 => c4 (hq_lei.mpr h9)
      refine lv_aload_n hx hb dX13_forget_9 rfl (lv_at hl 1 rfl) ?_
      have fx25 : V9 (mo) = some (.inr (13, hm_o q (m_tp) (m_sz) (m_fr) (m_bh) (m_hd) (m_ft) (m_fa) (m_le) (m_fo) (m_as) (m_fd) (m_bc) (m_bg) (m_bs) (m_be) (m_b0) (m_b1) (m_cm) (m_hc))) := (hP_2.2 (mo) _ h_mo rfl).trans (ho_mo)
      refine hp_get (v := .ref (q + 42)) hx hb hts hown hZ fx25 fl_X13_277 rfl dX13_forget_10 ?_
      refine lv_iload_n hx hb dX13_forget_13 rfl (lv_at hl 0 rfl) ?_
      refine lv_iconst (v := 0) hx hb dX13_forget_14 (by decide) ?_
      obtain ⟨hN28, g27, eV26, hf29⟩ := hq_o21 hP.1 (hr_42 hR)
      refine hp_iast hx hb hZ eV26 (hq_in (by omega) (by omega)) dX13_forget_15 (fun V30 _ _ e31 o32 hZ => ?_)
      have e31 : V30 (q + 42) = some (.inl (cs 1, 480, .inl (upd (g27) ((i : Int32).toNatClampNeg) (0)))) := e31
      have hl33 : (0 : Int32).toInt = 0 := by decide
      have hP := hP.put (hr_42 hR) e31 o32 (hq_c21 (by omega) (hq_upd hf29 (hq_rng _))) rfl
      obtain ⟨y34, ey35⟩ : ∃ y : Int32, y = i + (1) := ⟨_, rfl⟩
      obtain ⟨k36, hk37, b38, b39⟩ := hq_add (i) (1)
      rw [← ey35] at hk37 b38 b39
      have hk37 : (y34).toInt = (i).toInt + (1) + k36 * 4294967296 := hk37
      refine lv_iinc (v := y34) (lv' := [(1, .int (y34)), (0, .ref (mo))]) hx hb dX13_forget_16 hl (k := 0) rfl (by rw [ey35]; rfl) (by decide) rfl (fun ls hl => ?_)
      refine lv_goto (tgt := 2) hx hb dX13_forget_19 (by decide) ?_
      exact ih2 _ (by omega) _ _ _ ls (y34) rfl hZ hP (by omega) (by omega) (lv_sub hl [0, 1] rfl)

set_option maxHeartbeats 4000000 in
set_option maxRecDepth 100000 in
theorem t_X13_book (l : Launch) (D : va_G) (cs : Nat → ClassId) (B : Nat) (G : hq_G) (V : hp_V) (n : Nat) (hI : hq_I cs G V) (q : Nat) (hR : hq_RT G q) (mo : Nat) (h_mo : G mo = some (24, 0, 0, 0)) {m_tp m_sz m_fr m_bh m_hd m_ft m_fa m_le m_fo m_as m_fd m_bc m_bg m_bs m_be m_b0 m_b1 m_cm m_hc : Int32} (ho_mo : V mo = some (.inr (13, hm_o q (m_tp) (m_sz) (m_fr) (m_bh) (m_hd) (m_ft) (m_fa) (m_le) (m_fo) (m_as) (m_fd) (m_bc) (m_bg) (m_bs) (m_be) (m_b0) (m_b1) (m_cm) (m_hc)))) (hi_mo0 : 0 ≤ m_tp.toInt ∧ m_tp.toInt ≤ 4000) (hi_mo1 : 0 ≤ m_sz.toInt ∧ m_sz.toInt ≤ 4000) (hi_mo2 : 0 ≤ m_le.toInt ∧ m_le.toInt ≤ 276) (hi_mo3 : 0 ≤ m_fo.toInt ∧ m_fo.toInt ≤ 4) (hi_mo4 : 0 ≤ m_as.toInt ∧ m_as.toInt ≤ 4000) (hi_mo5 : 0 ≤ m_fd.toInt ∧ m_fd.toInt ≤ 900) (hi_mo6 : 0 ≤ m_cm.toInt ∧ m_cm.toInt ≤ 2) (hi_mo7 : 0 ≤ m_hc.toInt ∧ m_hc.toInt ≤ 1) (hH : hm_VQ cs V q 0 0) (hst : ∃ fs, V (q + 19) = some (.inr (12, fs))) : hp_MW l yX13_book cX13_book 2 (some .int) [(23, 27, 30, 210)] ({ frames := 13, cells := 0, slots := 0, locals := 276 }) D cs B V n [.ref (mo)] (hp_QI D cs B (fun r V' n' => n = n' ∧ hq_P cs G (fun g => g.1 == 1 || g.1 == 41 || g.1 == 48 || g.1 == 50) V V' ∧ (∃ (m_tp1 : Int32) (m_sz1 : Int32) (m_fr1 : Int32) (m_bh1 : Int32) (m_hd1 : Int32) (m_ft1 : Int32) (m_fa1 : Int32) (m_fd1 : Int32) (m_hc1 : Int32), V' mo = some (.inr (13, hm_o q (m_tp1) (m_sz1) (m_fr1) (m_bh1) (m_hd1) (m_ft1) (m_fa1) (m_le) (m_fo) (m_as) (m_fd1) (m_bc) (m_bg) (m_bs) (m_be) (m_b0) (m_b1) (m_cm) (m_hc1))) ∧ (0 ≤ m_tp1.toInt ∧ m_tp1.toInt ≤ 4000) ∧ (0 ≤ m_sz1.toInt ∧ m_sz1.toInt ≤ 4000) ∧ (0 ≤ m_fd1.toInt ∧ m_fd1.toInt ≤ 900) ∧ (0 ≤ m_hc1.toInt ∧ m_hc1.toInt ≤ 1) ∧ (m_tp1.toInt = 0)) ∧ (hm_VQ cs V' q 0 0))) 0 0 := by
  refine hp_walkW (R0 := RX13) (by decide) rfl ?_ (Nat.le_of_ble_eq_true rfl)
  intro p e s m below meth c ls hx hb hr hts hown hlocks hin hml hnx hZ hl
  have hP : hq_P cs G (fun g => g.1 == 1 || g.1 == 41 || g.1 == 48 || g.1 == 50) V V := hq_P.rf hI
  have hl : lv_has ls 2 [(0, .ref (mo))] := hl
  have hb_m_tp := hq_rng m_tp
  have hb_m_sz := hq_rng m_sz
  have hb_m_fr := hq_rng m_fr
  have hb_m_bh := hq_rng m_bh
  have hb_m_hd := hq_rng m_hd
  have hb_m_ft := hq_rng m_ft
  have hb_m_fa := hq_rng m_fa
  have hb_m_le := hq_rng m_le
  have hb_m_fo := hq_rng m_fo
  have hb_m_as := hq_rng m_as
  have hb_m_fd := hq_rng m_fd
  have hb_m_bc := hq_rng m_bc
  have hb_m_bg := hq_rng m_bg
  have hb_m_bs := hq_rng m_bs
  have hb_m_be := hq_rng m_be
  have hb_m_b0 := hq_rng m_b0
  have hb_m_b1 := hq_rng m_b1
  have hb_m_cm := hq_rng m_cm
  have hb_m_hc := hq_rng m_hc
  refine lv_aload_n hx hb dX13_book_0 rfl (lv_at hl 0 rfl) ?_
  refine lv_aload_n hx hb dX13_book_1 rfl (lv_at hl 0 rfl) ?_
  refine hp_get (v := .int (m_tp)) hx hb hts hown hZ ho_mo fl_X13_295 rfl dX13_book_2 ?_
  refine hp_put hx hb hts hown hZ ho_mo fp_X13_70 rfl rfl (Nat.le_of_ble_eq_true rfl) dX13_book_5 (fun V1 _ _ e2 o3 hZ => ?_)
  have e2 : V1 (mo) = some (.inr (13, hm_o q (m_tp) (m_tp) (m_fr) (m_bh) (m_hd) (m_ft) (m_fa) (m_le) (m_fo) (m_as) (m_fd) (m_bc) (m_bg) (m_bs) (m_be) (m_b0) (m_b1) (m_cm) (m_hc))) := e2
  have hP := hP.put h_mo e2 o3 (trivial) rfl
  refine lv_aload_n hx hb dX13_book_8 rfl (lv_at hl 0 rfl) ?_
  refine lv_iconst (v := 0) hx hb dX13_book_9 (by decide) ?_
  refine hp_put hx hb hts hown hZ e2 fp_X13_295 rfl rfl (Nat.le_of_ble_eq_true rfl) dX13_book_10 (fun V4 _ _ e5 o6 hZ => ?_)
  have e5 : V4 (mo) = some (.inr (13, hm_o q (0) (m_tp) (m_fr) (m_bh) (m_hd) (m_ft) (m_fa) (m_le) (m_fo) (m_as) (m_fd) (m_bc) (m_bg) (m_bs) (m_be) (m_b0) (m_b1) (m_cm) (m_hc))) := e5
  have hP := hP.put h_mo e5 o6 (trivial) rfl
  refine lv_aload_n hx hb dX13_book_13 rfl (lv_at hl 0 rfl) ?_
  refine lv_iconst (v := 0) hx hb dX13_book_14 (by decide) ?_
  refine hp_put hx hb hts hown hZ e5 fp_X13_56 rfl rfl (Nat.le_of_ble_eq_true rfl) dX13_book_15 (fun V7 _ _ e8 o9 hZ => ?_)
  have e8 : V7 (mo) = some (.inr (13, hm_o q (0) (m_tp) (m_fr) (m_bh) (m_hd) (0) (m_fa) (m_le) (m_fo) (m_as) (m_fd) (m_bc) (m_bg) (m_bs) (m_be) (m_b0) (m_b1) (m_cm) (m_hc))) := e8
  have hP := hP.put h_mo e8 o9 (trivial) rfl
  refine lv_aload_n hx hb dX13_book_18 rfl (lv_at hl 0 rfl) ?_
  refine lv_iconst (v := -1) hx hb dX13_book_19 (by decide) ?_
  refine hp_put hx hb hts hown hZ e8 fp_X13_63 rfl rfl (Nat.le_of_ble_eq_true rfl) dX13_book_20 (fun V10 _ _ e11 o12 hZ => ?_)
  have e11 : V10 (mo) = some (.inr (13, hm_o q (0) (m_tp) (m_fr) (m_bh) (m_hd) (0) (-1) (m_le) (m_fo) (m_as) (m_fd) (m_bc) (m_bg) (m_bs) (m_be) (m_b0) (m_b1) (m_cm) (m_hc))) := e11
  have hP := hP.put h_mo e11 o12 (trivial) rfl
  refine lv_aload_n hx hb dX13_book_23 rfl (lv_at hl 0 rfl) ?_
  have hl13 : (0 : Int32).toInt = 0 := by decide
  have hl14 : (0 : Int32).toInt = 0 := by decide
  have hl15 : (-1 : Int32).toInt = -1 := by decide
  refine hq_callc (hq_runV (As := []) (rest := []) hx hb hml hown hts (t_X13_readBook l D cs B G V10 n hP.1 q hR (mo) h_mo e11 (by omega) (by omega) (by omega) (by omega) (by omega) (by omega) (by omega) (by omega)) hZ e11 cv_X13_304 rfl rfl ⟨Nat.le_of_ble_eq_true rfl, Nat.le_of_ble_eq_true rfl⟩ rfl hl.1 rfl (Nat.le_of_ble_eq_true rfl) dX13_book_24 ⟨Nat.le_of_ble_eq_true rfl, Nat.le_of_ble_eq_true rfl⟩) hZ hown hts hnx ⟨by decide, by decide⟩ (by decide) cl_X13_210 (ci := 12) (r := (RX12, TX12, 6)) rfl (fun x9 V9 n9 h9 => by obtain ⟨rfl, rfl, hq9, h8⟩ := h9; obtain ⟨fs9, hst9⟩ := hst; exact ⟨fs9, (hq9.2 _ _ (hr_19 hR) rfl).trans ((hP.2 _ _ (hr_19 hR) rfl).trans hst9)⟩) (fun v9 Vn9 n9 _ _ hw9 hZ => ?_) (fun x9 Vn9 n9 _ _ hw9 hZ => ?_)
  · obtain ⟨rfl, rfl, hq22, ⟨z16, z17, z18, z19, z20, ho21⟩, hxp⟩ := hw9
    have hP := hP.trans hq22 (by intro g h; simp_all)
    have b23 := hq_rng z16
    have b24 := hq_rng z17
    have b25 := hq_rng z18
    have b26 := hq_rng z19
    have b27 := hq_rng z20
    have hvD := hxp.2
    refine W.eq (g2 := F0 m 27 ls []) rfl ?_
    refine lv_goto (tgt := 33) hx hb dX13_book_27 (by decide) ?_
    refine lv_aload_n hx hb dX13_book_33 rfl (lv_at hl 0 rfl) ?_
    have hl34 : (0 : Int32).toInt = 0 := by decide
    refine hp_callv (hp_runV (As := []) (rest := []) hx hb hml hown hts (t_X13_become l D cs B G  Vn9 n hP.1 q hR (mo) h_mo ho21  (by omega) (by omega) (by omega) (by omega) (by omega) (by omega) (by omega) (by omega) hvD) hZ ho21 cv_X13_307 rfl rfl ⟨Nat.le_of_ble_eq_true rfl, Nat.le_of_ble_eq_true rfl⟩ rfl hl.1 rfl (Nat.le_of_ble_eq_true rfl) dX13_book_34 ⟨(Nat.le_of_ble_eq_true rfl), (Nat.le_of_ble_eq_true rfl)⟩) hZ (fun V28 n29 _ _ hw30 hZ => ?_)
    obtain ⟨rfl, hq32, ho35, hr33⟩ := hw30
    have hP := hP.trans hq32 (by intro g h; simp_all)
    have hvB : hm_VQ cs V28 q 0 0 := hr33
    refine lv_aload_n hx hb dX13_book_37 rfl (lv_at hl 0 rfl) ?_
    have hl42 : (0 : Int32).toInt = 0 := by decide
    refine hp_callv (hp_runV (As := []) (rest := []) hx hb hml hown hts (t_X13_forget l D cs B G  V28 n hP.1 q hR (mo) h_mo ho35  (by omega) (by omega) (by omega) (by omega) (by omega) (by omega) (by omega) (by omega) ) hZ ho35 cv_X13_292 rfl rfl ⟨Nat.le_of_ble_eq_true rfl, Nat.le_of_ble_eq_true rfl⟩ rfl hl.1 rfl (Nat.le_of_ble_eq_true rfl) dX13_book_38 ⟨(Nat.le_of_ble_eq_true rfl), (Nat.le_of_ble_eq_true rfl)⟩) hZ (fun V36 n37 _ _ hw38 hZ => ?_)
    obtain ⟨rfl, hq40, ho43⟩ := hw38
    have hP := hP.trans hq40 (by intro g h; simp_all)
    refine lv_aload_n hx hb dX13_book_41 rfl (lv_at hl 0 rfl) ?_
    refine lv_iconst (v := 0) hx hb dX13_book_42 (by decide) ?_
    refine hp_put hx hb hts hown hZ ho43 fp_X13_310 rfl rfl (Nat.le_of_ble_eq_true rfl) dX13_book_43 (fun V44 _ _ e45 o46 hZ => ?_)
    have e45 : V44 (mo) = some (.inr (13, hm_o q (0) (m_tp) (z16) (z17) (z18) (z19) (z20) (m_le) (m_fo) (m_as) (0) (m_bc) (m_bg) (m_bs) (m_be) (m_b0) (m_b1) (m_cm) (m_hc))) := e45
    have hP := hP.put h_mo e45 o46 (trivial) rfl
    refine lv_aload_n hx hb dX13_book_46 rfl (lv_at hl 0 rfl) ?_
    refine lv_iconst (v := 0) hx hb dX13_book_47 (by decide) ?_
    refine hp_put hx hb hts hown hZ e45 fp_X13_313 rfl rfl (Nat.le_of_ble_eq_true rfl) dX13_book_48 (fun V47 _ _ e48 o49 hZ => ?_)
    have e48 : V47 (mo) = some (.inr (13, hm_o q (0) (m_tp) (z16) (z17) (z18) (z19) (z20) (m_le) (m_fo) (m_as) (0) (m_bc) (m_bg) (m_bs) (m_be) (m_b0) (m_b1) (m_cm) (0))) := e48
    have hP := hP.put h_mo e48 o49 (trivial) rfl
    refine lv_aload_n hx hb dX13_book_51 rfl (lv_at hl 0 rfl) ?_
    refine hp_get (v := .ref (q + 2)) hx hb hts hown hZ e48 fl_X13_10 rfl dX13_book_52 ?_
    refine lv_iconst (v := 0) hx hb dX13_book_55 (by decide) ?_
    obtain ⟨hN52, g51, eV50, hf53⟩ := hq_o21 hP.1 (hr_2 hR)
    refine hp_iald hx hb hZ eV50 (by unfold vp_in; decide) dX13_book_56 ?_
    refine lv_topi (fun y54 ey55 => ?_)
    have b56 : hq_ir (hq_lo 8) (hq_hi 8) y54 := by rw [ey55]; exact hf53 _ (by decide)
    have b56 : 0 ≤ (y54).toInt ∧ (y54).toInt ≤ 60 := b56
    have hl57 : (0 : Int32).toInt = 0 := by decide
    have hl58 : (0 : Int32).toInt = 0 := by decide
    have hl59 : (0 : Int32).toInt = 0 := by decide
    exact hp_iret hx hb hr hlocks hZ ⟨rfl, hP, ⟨0, m_tp, z16, z17, z18, z19, z20, 0, 0, e48, by omega, by omega, by omega, by omega, by omega⟩, (hvB.keep hR (fun y9 t9 hy9 hg9 => (o49 y9 (hq_gne hy9 h_mo hg9 (by decide))).trans ((o46 y9 (hq_gne hy9 h_mo hg9 (by decide))).trans (hq40.2 y9 _ hy9 (by simp [hg9])))))⟩ dX13_book_57
  · obtain ⟨rfl, rfl, hq66, ⟨z60, z61, z62, z63, z64, ho65⟩, hxp⟩ := hw9
    have hP := hP.trans hq66 (by intro g h; simp_all)
    have b67 := hq_rng z60
    have b68 := hq_rng z61
    have b69 := hq_rng z62
    have b70 := hq_rng z63
    have b71 := hq_rng z64
    have hvH : hm_VQ cs Vn9 q 0 0 := hxp (hH.keep hR (fun y9 t9 hy9 hg9 => (o12 y9 (hq_gne hy9 h_mo hg9 (by decide))).trans ((o9 y9 (hq_gne hy9 h_mo hg9 (by decide))).trans ((o6 y9 (hq_gne hy9 h_mo hg9 (by decide))).trans (o3 y9 (hq_gne hy9 h_mo hg9 (by decide)))))))
    refine lv_astore_n (lv' := [(1, .ref (q + 19)), (0, .ref (mo))]) hx hb dX13_book_30 rfl hl (by decide) rfl (fun ls hl => ?_)
    refine lv_iconst (v := -1) hx hb dX13_book_31 (by decide) ?_
    have hl72 : (0 : Int32).toInt = 0 := by decide
    exact hp_iret hx hb hr hlocks hZ ⟨rfl, hP, ⟨0, m_tp, z60, z61, z62, z63, z64, m_fd, m_hc, ho65, by omega, by omega, by omega, by omega, by omega⟩, hvH⟩ dX13_book_32

set_option maxHeartbeats 4000000 in
set_option maxRecDepth 100000 in
theorem x_answerN_1 (l : Launch) (D : va_G) (cs : Nat → ClassId) (B : Nat) (G : hq_G) (V : hp_V) (n : Nat) (hI : hq_I cs G V) (a : Nat) (kb : Nat) (qt : Nat) (qb : Nat) (mo : Nat) (q : Nat) (w : sp_W) (bk : sp_B) (ask : List Int) (k : Int32) (v : Int32) (te : Int32) (pe : Int32) (c_fs : Int32) (e_fd : Int32) (e_sz : Int32) (e_bk : Value) (e_an : Value) (e_mk : Value) (pz : Int32) (pf : Nat → Int32) (kk : Nat → Int32) (mm : Nat → Int32) (tt_ : Nat → Int32) (gf : Nat → Option Nat) (hc0 : V (a) = some (.inr (11, [.ref (kb), .ref (kb + 2), .ref (kb + 5), .ref (kb + 46), .ref (kb + 50), .ref (kb + 62), .ref (kb + 87), .int (c_fs), .ref (qt), .ref (qb)]))) (hc1 : V (kb + 50) = some (.inr (1, [.ref (kb + 51), .ref (kb + 52), .int (e_fd), .ref (kb + 53), .ref (kb + 55), .ref (kb + 57), e_bk, e_an, e_mk, .int (e_sz), .ref (kb + 59), .ref (kb + 60), .ref (kb + 61)]))) (hc2 : V (kb) = some (.inr (9, [.ref (kb + 1), .int (pz)]))) (hc3 : V (kb + 1) = some (.inl (cs 0, 4000, .inl (pf)))) (hc4 : V (kb + 59) = some (.inl (cs 1, 2, .inl (kk)))) (hc5 : V (kb + 60) = some (.inl (cs 1, 2, .inl (mm)))) (hc6 : V (kb + 61) = some (.inl (cs 1, 2, .inl (tt_)))) (hc7 : V (kb + 7) = some (.inl (cs 4, 4, .inr (.inr (.inr (.inr (gf))))))) (hT : hk_Ty G a kb mo q) (hT2 : hk_T2 G kb q) (hT3 : hk_T3 G kb) (hak : a + 1 = kb) (hqs : qt = kb + 465) (hBx : hx_BK cs V qt w bk) (hBS : hx_BS cs V qt) (hgd : sp_good w bk) (hgd2 : sp_good2 bk) (hg8 : sp_g8 w bk) (hask : sp_rp pz pf ask) (hpz : 0 ≤ pz.toInt ∧ pz.toInt ≤ 4000) (hgf : ∀ j, j < 4 → gf j = some (kb + 6 + 2 + 4 * j)) (hes : 0 ≤ e_sz.toInt ∧ e_sz.toInt ≤ 2) (hef : 0 ≤ e_fd.toInt ∧ e_fd.toInt ≤ 1) (hn39 : sp_nfv bk 3 v.toInt te.toInt pe.toInt = -1) : hp_M l yX11_answer cX11_answer 7 (some .int) ({ frames := 8, cells := 0, slots := 0, locals := 198 }) D cs B V n [.ref (a), .int (k), .int (v), .int (te), .int (pe)] (hp_QI D cs B (fun r V' n' => n = n' ∧ hq_P cs G (fun _ => true) V V' ∧ (∀ x, x ≠ kb → x ≠ kb + 5 → x ≠ kb + 44 → x ≠ kb + 45 → x ≠ kb + 50 → x ≠ kb + 51 → x ≠ kb + 52 → x ≠ kb + 53 → x ≠ kb + 54 → x ≠ kb + 55 → x ≠ kb + 56 → x ≠ kb + 57 → x ≠ kb + 58 → x ≠ kb + 59 → x ≠ kb + 60 → x ≠ kb + 61 → (x < kb + 6 ∨ kb + 6 + 18 ≤ x) → (∃ t, G x = some t ∧ (hq_grp t).1 ≠ 0 ∧ (hq_grp t).1 ≠ 5 ∧ (hq_grp t).1 ≠ 6 ∧ (hq_grp t).1 ≠ 7) → V' x = V x) ∧ (∃ e_fd1 : Int32, ∃ e_sz1 : Int32, ∃ e_bk1 : Value, ∃ e_an1 : Value, ∃ e_mk1 : Value, ∃ kk1 : Nat → Int32, ∃ mm1 : Nat → Int32, ∃ tt1 : Nat → Int32, V' (a) = some (.inr (11, [.ref (kb), .ref (kb + 2), .ref (kb + 5), .ref (kb + 46), .ref (kb + 50), .ref (kb + 62), .ref (kb + 87), .int (c_fs), .ref (qt), .ref (qb)])) ∧ V' (kb) = some (.inr (9, [.ref (kb + 1), .int (0)])) ∧ V' (kb + 50) = some (.inr (1, [.ref (kb + 51), .ref (kb + 52), .int (e_fd1), .ref (kb + 53), .ref (kb + 55), .ref (kb + 57), e_bk1, e_an1, e_mk1, .int (e_sz1), .ref (kb + 59), .ref (kb + 60), .ref (kb + 61)])) ∧ V' (kb + 59) = some (.inl (cs 1, 2, .inl (kk1))) ∧ V' (kb + 60) = some (.inl (cs 1, 2, .inl (mm1))) ∧ V' (kb + 61) = some (.inl (cs 1, 2, .inl (tt1))) ∧ V' (kb + 7) = some (.inl (cs 4, 4, .inr (.inr (.inr (.inr (gf)))))) ∧ ((sp_Z w bk ask k.toInt v.toInt te.toInt pe.toInt ∧ sp_hl e_sz1 kk1 mm1 tt1 (sp_TL w bk ask v.toInt te.toInt pe.toInt)) ∨ (¬ sp_Z w bk ask k.toInt v.toInt te.toInt pe.toInt ∧ e_sz1 = e_sz ∧ kk1 = kk ∧ mm1 = mm ∧ tt1 = tt_)) ∧ ((0 ≤ e_fd1.toInt ∧ e_fd1.toInt ≤ 1) ∧ (0 ≤ e_sz1.toInt ∧ e_sz1.toInt ≤ 2))))) 0 0 := by
  refine hp_walk (R0 := RX11) (by decide) rfl ?_ (Nat.le_of_ble_eq_true rfl)
  intro p e s m below meth c ls hx hb hr hts hown hlocks hin hml hZ hl
  have hP : hq_P cs G (fun _ => true) V V := hq_P.rf hI
  have hl : lv_has ls 7 [(0, .ref (a)), (1, .int (k)), (2, .int (v)), (3, .int (te)), (4, .int (pe))] := hl
  have hb_k := hq_rng k
  have hb_v := hq_rng v
  have hb_te := hq_rng te
  have hb_pe := hq_rng pe
  have hb_c_fs := hq_rng c_fs
  have hb_e_fd := hq_rng e_fd
  have hb_e_sz := hq_rng e_sz
  have hb_pz := hq_rng pz
  obtain ⟨ty0, ty1, ty2, ty3, ty4, ty5, ty6, ty7, ty8, ty9, ty10, ty11, ty12, ty13, ty14, ty15, ty16, ty17, ty18, ty19, ty20, hR⟩ := id hT
  obtain ⟨t2a, t2b, t2c, t2d⟩ := id hT2
  have hyqt : G qt = some (6, 1, 0, 0) := by rw [hqs]; exact ty19
  have hyb : hk_BTy G qt 1 := by rw [hqs]; exact t2c
  obtain ⟨hyb1, hyb14, hyb75, hyb76, hBT⟩ := hyb
  obtain ⟨hy6, hy7, hy24, hy34, hy44, hy45, hy54, hy56, hy58, hFT⟩ := id hT3
  obtain ⟨⟨bc, bv, bl, hbk1, hbc, hbv, hbl⟩, -, hNV, ⟨vf, hvf, hvl, hVC⟩, hLL⟩ := id hBx
  obtain ⟨⟨g1, hg1, hr1⟩, ⟨g2, hg2, hr2⟩, ⟨g3, hg3, hr3⟩⟩ := id hBS
  have hb_bc := hq_rng bc
  have hb_bv := hq_rng bv
  have hb_bl := hq_rng bl
  have hlv9 := hNV.1
  have hll9 := hLL.1
  have ha1 := hask.1
  refine lv_bipush (v := -2) hx hb dX11_answer_0 (by decide) ?_
  refine lv_istore (lv' := [(5, .int (-2)), (0, .ref (a)), (1, .int (k)), (2, .int (v)), (3, .int (te)), (4, .int (pe))]) hx hb dX11_answer_2 hl (by decide) rfl (fun ls hl => ?_)
  refine lv_iload_n hx hb dX11_answer_4 rfl (lv_at hl 2 rfl) ?_
  refine hp_calli (hp_runS (As := [.int (k)]) (rest := []) hx hb hml hown hts (x_isLn l D cs B G V n hP.1 (k)    ) hZ cv_X11_218 rfl rfl ⟨Nat.le_of_ble_eq_true rfl, Nat.le_of_ble_eq_true rfl⟩ rfl hl.1 rfl (Nat.le_of_ble_eq_true rfl) dX11_answer_5 ⟨(Nat.le_of_ble_eq_true rfl), (Nat.le_of_ble_eq_true rfl)⟩) hZ (fun r4 V1 n2 _ _ hw3 hZ => ?_)
  obtain ⟨rfl, rfl, hp7⟩ := hw3
  have b8 := hq_rng r4
  refine lv_if_eq (tgt := 176) hx hb dX11_answer_8 (by decide) (fun c9 => ?_) (fun c9 => ?_)
  · have c9 : (r4).toInt = (0 : Int) := hq_eqi.mp c9
    refine lv_aload_n hx hb dX11_answer_176 rfl (lv_at hl 1 rfl) ?_
    refine hp_get (v := .ref (kb)) hx hb hts hown hZ hc0 fl_X11_14 rfl dX11_answer_177 ?_
    refine hp_callv (hp_runV (As := []) (rest := []) hx hb hml hown hts (x_clear l D cs B G V n hP.1 (kb) (4000) (pz) ty1 ty2 hc2  (by decide)) hZ hc2 cv_X11_81 rfl rfl ⟨Nat.le_of_ble_eq_true rfl, Nat.le_of_ble_eq_true rfl⟩ rfl hl.1 rfl (Nat.le_of_ble_eq_true rfl) dX11_answer_180 ⟨(Nat.le_of_ble_eq_true rfl), (Nat.le_of_ble_eq_true rfl)⟩) hZ (fun V10 n11 _ _ hw12 hZ => ?_)
    obtain ⟨rfl, hq14, fr15, ho16⟩ := hw12
    have hP := hP.trans hq14 (fun _ h => Bool.noConfusion h)
    refine lv_iload hx hb dX11_answer_183 (lv_at hl 0 rfl) ?_
    have hl17 : (-2 : Int32).toInt = -2 := by decide
    have fx18 : V10 (kb + 50) = some (.inr (1, [.ref (kb + 51), .ref (kb + 52), .int (e_fd), .ref (kb + 53), .ref (kb + 55), .ref (kb + 57), e_bk, e_an, e_mk, .int (e_sz), .ref (kb + 59), .ref (kb + 60), .ref (kb + 61)])) := (fr15 (kb + 50) (hq_tne ty7 ty1 (by simp))).trans (hc1)
    have fx19 : V10 (kb + 59) = some (.inl (cs 1, 2, .inl (kk))) := (fr15 (kb + 59) (hq_tne ty13 ty1 (by simp))).trans (hc4)
    have fx20 : V10 (kb + 60) = some (.inl (cs 1, 2, .inl (mm))) := (fr15 (kb + 60) (hq_tne ty14 ty1 (by simp))).trans (hc5)
    have fx21 : V10 (kb + 61) = some (.inl (cs 1, 2, .inl (tt_))) := (fr15 (kb + 61) (hq_tne ty15 ty1 (by simp))).trans (hc6)
    have fx22 : V10 (a) = some (.inr (11, [.ref (kb), .ref (kb + 2), .ref (kb + 5), .ref (kb + 46), .ref (kb + 50), .ref (kb + 62), .ref (kb + 87), .int (c_fs), .ref (qt), .ref (qb)])) := (fr15 (a) (hq_tne ty0 ty1 (by simp))).trans (hc0)
    have fx23 : V10 (kb + 7) = some (.inl (cs 4, 4, .inr (.inr (.inr (.inr (gf)))))) := (fr15 (kb + 7) (hq_tne hy7 ty1 (by simp))).trans (hc7)
    exact hp_iret hx hb hr hlocks hZ ⟨rfl, hP, (fun x8 hne0 hne1 hne2 hne3 hne4 hne5 hne6 hne7 hne8 hne9 hne10 hne11 hne12 hne13 hne14 hne15 hne16 hne17 => fr15 x8 hne0), e_fd, e_sz, e_bk, e_an, e_mk, kk, mm, tt_, fx22, ho16, fx18, fx19, fx20, fx21, fx23, Or.inr ⟨(fun g9 => by have h9 := g9.1; unfold sp_pl at h9; omega), rfl, rfl, rfl, rfl⟩, by omega⟩ dX11_answer_185
  · have c9 : ¬ (r4).toInt = (0 : Int) := fun h9 => c9 (hq_eqi.mpr h9)
    have hlr9 : 0 ≤ k.toInt ∧ k.toInt < 8 := by omega
    refine lv_aload_n hx hb dX11_answer_11 rfl (lv_at hl 1 rfl) ?_
    refine lv_iload_n hx hb dX11_answer_12 rfl (lv_at hl 3 rfl) ?_
    refine lv_iload_n hx hb dX11_answer_13 rfl (lv_at hl 4 rfl) ?_
    refine lv_iload hx hb dX11_answer_14 (lv_at hl 5 rfl) ?_
    refine hp_calli (hp_runV (As := [.int (v), .int (te), .int (pe)]) (rest := []) hx hb hml hown hts (x_isPl l D cs B G V n hP.1 (a) (kb) (qt) (qb) (v) (te) (pe) (c_fs) (bc) (bv) (bl)  hc0 hbk1  ) hZ hc0 cv_X11_141 rfl rfl ⟨Nat.le_of_ble_eq_true rfl, Nat.le_of_ble_eq_true rfl⟩ rfl hl.1 rfl (Nat.le_of_ble_eq_true rfl) dX11_answer_16 ⟨(Nat.le_of_ble_eq_true rfl), (Nat.le_of_ble_eq_true rfl)⟩) hZ (fun r27 V24 n25 _ _ hw26 hZ => ?_)
    obtain ⟨rfl, rfl, hp30⟩ := hw26
    have b31 := hq_rng r27
    refine lv_if_eq (tgt := 176) hx hb dX11_answer_19 (by decide) (fun c32 => ?_) (fun c32 => ?_)
    · have c32 : (r27).toInt = (0 : Int) := hq_eqi.mp c32
      refine lv_aload_n hx hb dX11_answer_176 rfl (lv_at hl 1 rfl) ?_
      refine hp_get (v := .ref (kb)) hx hb hts hown hZ hc0 fl_X11_14 rfl dX11_answer_177 ?_
      refine hp_callv (hp_runV (As := []) (rest := []) hx hb hml hown hts (x_clear l D cs B G V n hP.1 (kb) (4000) (pz) ty1 ty2 hc2  (by decide)) hZ hc2 cv_X11_81 rfl rfl ⟨Nat.le_of_ble_eq_true rfl, Nat.le_of_ble_eq_true rfl⟩ rfl hl.1 rfl (Nat.le_of_ble_eq_true rfl) dX11_answer_180 ⟨(Nat.le_of_ble_eq_true rfl), (Nat.le_of_ble_eq_true rfl)⟩) hZ (fun V33 n34 _ _ hw35 hZ => ?_)
      obtain ⟨rfl, hq37, fr38, ho39⟩ := hw35
      have hP := hP.trans hq37 (fun _ h => Bool.noConfusion h)
      refine lv_iload hx hb dX11_answer_183 (lv_at hl 0 rfl) ?_
      have hl40 : (-2 : Int32).toInt = -2 := by decide
      have fx41 : V33 (kb + 50) = some (.inr (1, [.ref (kb + 51), .ref (kb + 52), .int (e_fd), .ref (kb + 53), .ref (kb + 55), .ref (kb + 57), e_bk, e_an, e_mk, .int (e_sz), .ref (kb + 59), .ref (kb + 60), .ref (kb + 61)])) := (fr38 (kb + 50) (hq_tne ty7 ty1 (by simp))).trans (hc1)
      have fx42 : V33 (kb + 59) = some (.inl (cs 1, 2, .inl (kk))) := (fr38 (kb + 59) (hq_tne ty13 ty1 (by simp))).trans (hc4)
      have fx43 : V33 (kb + 60) = some (.inl (cs 1, 2, .inl (mm))) := (fr38 (kb + 60) (hq_tne ty14 ty1 (by simp))).trans (hc5)
      have fx44 : V33 (kb + 61) = some (.inl (cs 1, 2, .inl (tt_))) := (fr38 (kb + 61) (hq_tne ty15 ty1 (by simp))).trans (hc6)
      have fx45 : V33 (a) = some (.inr (11, [.ref (kb), .ref (kb + 2), .ref (kb + 5), .ref (kb + 46), .ref (kb + 50), .ref (kb + 62), .ref (kb + 87), .int (c_fs), .ref (qt), .ref (qb)])) := (fr38 (a) (hq_tne ty0 ty1 (by simp))).trans (hc0)
      have fx46 : V33 (kb + 7) = some (.inl (cs 4, 4, .inr (.inr (.inr (.inr (gf)))))) := (fr38 (kb + 7) (hq_tne hy7 ty1 (by simp))).trans (hc7)
      exact hp_iret hx hb hr hlocks hZ ⟨rfl, hP, (fun x8 hne0 hne1 hne2 hne3 hne4 hne5 hne6 hne7 hne8 hne9 hne10 hne11 hne12 hne13 hne14 hne15 hne16 hne17 => fr38 x8 hne0), e_fd, e_sz, e_bk, e_an, e_mk, kk, mm, tt_, fx45, ho39, fx41, fx42, fx43, fx44, fx46, Or.inr ⟨(fun g9 => by have h9 := g9.1; unfold sp_pl at h9; omega), rfl, rfl, rfl, rfl⟩, by omega⟩ dX11_answer_185
    · have c32 : ¬ (r27).toInt = (0 : Int) := fun h9 => c32 (hq_eqi.mpr h9)
      have hpl9 : 0 ≤ v.toInt ∧ v.toInt < bv.toInt ∧ 0 ≤ te.toInt ∧ te.toInt < 5 ∧ 0 ≤ pe.toInt ∧ pe.toInt < 6 := by omega
      have hvv : (v.toNatClampNeg : Int) = v.toInt := (hq_nn (by omega)).1.symm
      obtain ⟨t9, ht9⟩ : ∃ t, bk.2.1[v.toNatClampNeg]? = some t := ⟨_, List.getElem?_eq_getElem (by omega)⟩
      obtain ⟨c9, hc90⟩ : ∃ t, bk.2.2.1[v.toNatClampNeg]? = some t := ⟨_, List.getElem?_eq_getElem (by omega)⟩
      have hcd : sp_c9 bk v.toInt = c9 := sp_getD hc90
      have hnd : sp_nmv w bk v.toInt = (sp_nm w t9) := congrArg (sp_nm w) (sp_getD ht9)
      have hc9 := hVC _ _ hc90
      obtain ⟨tz, tf, htx1, htx2, htx3, htx4, htx5⟩ := hNV.2 _ _ ht9
      have hnm := sp_nm_rp htx3.1 htx4 htx5
      have hnm1 := hnm.1
      have hnl : (sp_nm w t9).length ≤ 12 := by omega
      have hn3 : (sp_nf 3 v.toInt c9 te.toInt pe.toInt bk.2.2.2 0) = -1 := by have h9 := hn39; unfold sp_nfv at h9; rw [hcd] at h9; exact h9
      refine lv_aload_n hx hb dX11_answer_22 rfl (lv_at hl 1 rfl) ?_
      refine hp_get (v := .ref (kb + 62)) hx hb hts hown hZ hc0 fl_X11_48 rfl dX11_answer_23 ?_
      refine lv_iload_n hx hb dX11_answer_26 rfl (lv_at hl 2 rfl) ?_
      obtain ⟨hN49, g48, eV47, hf50, _⟩ := hq_o4 hP.1 ty16
      obtain ⟨u51, hx52, hu53⟩ := hf50 (k : Int32).toNatClampNeg (hq_ix (by omega) (by omega))
      have hu53 : G u51 = some (9, 0, 0, 0) := hu53
      refine hp_aald (v := .ref (u51)) hx hb hZ 5 eV47 rfl (hq_in (by omega) (by omega)) (by rw [hx52]; rfl) dX11_answer_27 ?_
      refine lv_iload_n hx hb dX11_answer_28 rfl (lv_at hl 3 rfl) ?_
      refine lv_iload_n hx hb dX11_answer_29 rfl (lv_at hl 4 rfl) ?_
      refine lv_iload hx hb dX11_answer_30 (lv_at hl 5 rfl) ?_
      refine hp_calli (hp_runS (As := [.int (v), .int (te), .int (pe)]) (rest := [.ref (u51)]) hx hb hml hown hts (x_plOf l D cs B G V n hP.1 (v) (te) (pe)    ) hZ cv_X11_221 rfl rfl ⟨Nat.le_of_ble_eq_true rfl, Nat.le_of_ble_eq_true rfl⟩ rfl hl.1 rfl (Nat.le_of_ble_eq_true rfl) dX11_answer_32 ⟨(Nat.le_of_ble_eq_true rfl), (Nat.le_of_ble_eq_true rfl)⟩) hZ (fun r57 V54 n55 _ _ hw56 hZ => ?_)
      obtain ⟨rfl, rfl⟩ := hw56
      have b60 := hq_rng r57
      obtain ⟨u68, u69, eV67, hu70, hu71⟩ := hq_o9 hP.1 hu53
      refine hp_callv (hp_runV (As := [.int (r57)]) (rest := []) hx hb hml hown hts (t_X4_notePlace l D cs B G  V n hP.1  (u51) hu53 (r57) ) hZ eV67 cv_X11_225 rfl rfl ⟨Nat.le_of_ble_eq_true rfl, Nat.le_of_ble_eq_true rfl⟩ rfl hl.1 rfl (Nat.le_of_ble_eq_true rfl) dX11_answer_35 ⟨(Nat.le_of_ble_eq_true rfl), (Nat.le_of_ble_eq_true rfl)⟩) hZ (fun V61 n62 _ _ hw63 hZ => ?_)
      obtain ⟨rfl, hq65⟩ := hw63
      have hP := hP.trans hq65 (fun _ h => Bool.noConfusion h)
      refine lv_aload_n hx hb dX11_answer_38 rfl (lv_at hl 1 rfl) ?_
      have fx72 : V61 (a) = some (.inr (11, [.ref (kb), .ref (kb + 2), .ref (kb + 5), .ref (kb + 46), .ref (kb + 50), .ref (kb + 62), .ref (kb + 87), .int (c_fs), .ref (qt), .ref (qb)])) := (hq65.2 (a) _ ty0 rfl).trans (hc0)
      refine hp_get (v := .ref (kb + 5)) hx hb hts hown hZ fx72 fl_X11_28 rfl dX11_answer_39 ?_
      refine lv_aload_n hx hb dX11_answer_42 rfl (lv_at hl 1 rfl) ?_
      refine hp_get (v := .ref (qt)) hx hb hts hown hZ fx72 fl_X11_64 rfl dX11_answer_43 ?_
      refine lv_iload_n hx hb dX11_answer_46 rfl (lv_at hl 3 rfl) ?_
      refine lv_iload_n hx hb dX11_answer_47 rfl (lv_at hl 4 rfl) ?_
      refine lv_iload hx hb dX11_answer_48 (lv_at hl 5 rfl) ?_
      obtain ⟨z73, eV74, h75, h76⟩ := hx_oM hP.1 ty5
      obtain ⟨z77, eV78, h79, h80⟩ := hx_oL hP.1 hy6
      obtain ⟨z81, eV82, h83, h84⟩ := hx_oT hP.1 hy44
      obtain ⟨-, g85, eV86, hf87⟩ := hq_o1 hP.1 hy45
      have fx88 : V61 (qt) = some (.inr (0, [.ref (qt + 1), .int (bc), .ref (qt + 14), .ref (qt + 75), .int (bv), .ref (qt + 76), .int (bl)])) := (hq65.2 (qt) _ hyqt rfl).trans (hbk1)
      have fx89 : V61 (qt + 75) = some (.inl (cs 1, 30, .inl (vf))) := (hq65.2 (qt + 75) _ hyb75 rfl).trans (hvf)
      have fx90 : V61 (kb + 7) = some (.inl (cs 4, 4, .inr (.inr (.inr (.inr (gf)))))) := (hq65.2 (kb + 7) _ hy7 rfl).trans (hc7)
      have pk91 := hLL.keep (fun x7 (hx7 : qt + 77 ≤ x7 ∧ x7 < qt + 77 + 5 * bk.2.2.2.length) => hT2.fr hq65 (fun g hg => by unfold hk_gr at hg; simp; omega) x7 (by unfold hk_In; omega))
      have pk92 := hNV.keep (fun x7 (hx7 : qt + 15 ≤ x7 ∧ x7 < qt + 15 + 2 * bk.2.1.length) => hT2.fr hq65 (fun g hg => by unfold hk_gr at hg; simp; omega) x7 (by unfold hk_In; omega))
      have pk93 := hBS.keep (hq65.2 (qt + 1) _ hyb1 rfl) (hq65.2 (qt + 14) _ hyb14 rfl) (hq65.2 (qt + 76) _ hyb76 rfl)
      refine hp_callv (hp_runV (As := [.ref (qt), .int (v), .int (te), .int (pe)]) (rest := []) hx hb hml hown hts (x_makeN l D cs B G V61 n hP.1 (kb + 5) (kb + 6) (kb + 24) (kb + 34) (kb + 44) (qt) (1) (t9) (w) (bk) (c9) (v) (te) (pe) (z73) (bc) (bv) (bl) (z77) (z81) (g85) (vf) (gf) ty5 hy6 hy24 hy34 hy44 hy45 hy7 eV74 fx88 fx89 eV78 fx90 eV82 eV86 pk91 pk92 pk93 hbl hgd hgd2 hBT (by omega) hc9 ht9 hg8 hnl ⟨rfl, rfl, rfl, rfl⟩ (by omega) (by omega) (by omega) hgf hFT hn3) hZ eV74 cv_X11_145 rfl rfl ⟨Nat.le_of_ble_eq_true rfl, Nat.le_of_ble_eq_true rfl⟩ rfl hl.1 rfl (Nat.le_of_ble_eq_true rfl) dX11_answer_50 ⟨(Nat.le_of_ble_eq_true rfl), (Nat.le_of_ble_eq_true rfl)⟩) hZ (fun V94 n95 _ _ hw96 hZ => ?_)
      obtain ⟨rfl, hq98, fr99, z100, z101, z102, u103, u104, ho105, ho106, ho107, ho108, ho109, hp110, hp111, hp112, hp113, hp114⟩ := hw96
      have b115 := hq_rng z100
      have b116 := hq_rng z101
      have b117 := hq_rng z102
      have hP := hP.trans hq98 (fun _ h => Bool.noConfusion h)
      have hf118 := hq_rgB hP.1 hy45 ho109
      have hLn := hp110
      have hFM9 := hp112
      have hL2 := hp113
      have hL30 := hp114
      have hFV : sp_FMv w bk v.toInt te.toInt pe.toInt u104 := by unfold sp_FMv sp_nfv; rw [hcd, hnd]; exact hFM9
      refine lv_aload_n hx hb dX11_answer_53 rfl (lv_at hl 1 rfl) ?_
      have fx119 : V94 (a) = some (.inr (11, [.ref (kb), .ref (kb + 2), .ref (kb + 5), .ref (kb + 46), .ref (kb + 50), .ref (kb + 62), .ref (kb + 87), .int (c_fs), .ref (qt), .ref (qb)])) := (fr99 (a) (hq_tne ty0 ty5 (by simp)) (hq_tne ty0 hy44 (by simp)) (hq_tne ty0 hy45 (by simp)) (by omega)).trans (fx72)
      refine hp_get (v := .ref (kb + 5)) hx hb hts hown hZ fx119 fl_X11_28 rfl dX11_answer_54 ?_
      refine hp_get (v := .ref (kb + 6)) hx hb hts hown hZ ho107 fl_X11_149 rfl dX11_answer_57 ?_
      refine lv_aload_n hx hb dX11_answer_60 rfl (lv_at hl 1 rfl) ?_
      refine hp_get (v := .ref (kb + 5)) hx hb hts hown hZ fx119 fl_X11_28 rfl dX11_answer_61 ?_
      refine hp_get (v := .ref (kb + 6)) hx hb hts hown hZ ho107 fl_X11_149 rfl dX11_answer_64 ?_
      refine lv_aload_n hx hb dX11_answer_67 rfl (lv_at hl 1 rfl) ?_
      refine hp_get (v := .ref (kb)) hx hb hts hown hZ fx119 fl_X11_14 rfl dX11_answer_68 ?_
      have fx120 : V94 (kb) = some (.inr (9, [.ref (kb + 1), .int (pz)])) := (fr99 (kb) (hq_tne ty1 ty5 (by simp)) (hq_tne ty1 hy44 (by simp)) (hq_tne ty1 hy45 (by simp)) (by omega)).trans ((hq65.2 (kb) _ ty1 rfl).trans (hc2))
      have fx121 : V94 (kb + 1) = some (.inl (cs 0, 4000, .inl (pf))) := (fr99 (kb + 1) (hq_tne ty2 ty5 (by simp)) (hq_tne ty2 hy44 (by simp)) (hq_tne ty2 hy45 (by simp)) (by omega)).trans ((hq65.2 (kb + 1) _ ty2 rfl).trans (hc3))
      refine hp_calli (hp_runV (As := [.ref (kb)]) (rest := [.ref (kb + 6)]) hx hb hml hown hts (x_find l D cs B G V94 n hP.1 (kb + 6) (kb) (u104) (ask) (z100) (pz) (pf) (gf)  ho105 ho106 fx120 fx121 hp111 hgf hask hLn (by omega) hL30 (by omega)) hZ ho105 cv_X11_226 rfl rfl ⟨Nat.le_of_ble_eq_true rfl, Nat.le_of_ble_eq_true rfl⟩ rfl hl.1 rfl (Nat.le_of_ble_eq_true rfl) dX11_answer_71 ⟨(Nat.le_of_ble_eq_true rfl), (Nat.le_of_ble_eq_true rfl)⟩) hZ (fun r125 V122 n123 _ _ hw124 hZ => ?_)
      obtain ⟨rfl, rfl, hp128⟩ := hw124
      have b129 := hq_rng r125
      have hfd := hp128
      rcases hfd with hfd | hfd
      · have hfd9 := hfd
        refine hp_callq (hp_runV (As := [.int (r125)]) (rest := []) hx hb hml hown hts (x_getNone l D cs B G V94 n hP.1 (kb + 6) (r125) (z100)  ho105  (by omega)) hZ ho105 cv_X11_230 rfl rfl ⟨Nat.le_of_ble_eq_true rfl, Nat.le_of_ble_eq_true rfl⟩ rfl hl.1 rfl (Nat.le_of_ble_eq_true rfl) dX11_answer_74 ⟨(Nat.le_of_ble_eq_true rfl), (Nat.le_of_ble_eq_true rfl)⟩) hZ (fun r133 V130 n131 _ _ hw132 hZ => ?_)
        obtain ⟨rfl, rfl, hp136⟩ := hw132
        subst hp136
        refine W.eq (g2 := F0 m 77 ls [.null]) rfl ?_
        refine lv_astoreN (lv' := [(6, .null), (5, .int (-2)), (0, .ref (a)), (1, .int (k)), (2, .int (v)), (3, .int (te)), (4, .int (pe))]) hx hb dX11_answer_77 hl (by decide) rfl (fun ls hl => ?_)
        refine lv_aloadN hx hb dX11_answer_79 (lv_at hl 0 rfl) ?_
        refine lv_ifnullN (tgt := 104) hx hb dX11_answer_81 (by decide) ?_
        refine lv_aload_n hx hb dX11_answer_104 rfl (lv_at hl 2 rfl) ?_
        refine lv_iload_n hx hb dX11_answer_105 rfl (lv_at hl 4 rfl) ?_
        refine lv_iload_n hx hb dX11_answer_106 rfl (lv_at hl 5 rfl) ?_
        refine lv_iload hx hb dX11_answer_107 (lv_at hl 6 rfl) ?_
        have fx137 : V94 (qt) = some (.inr (0, [.ref (qt + 1), .int (bc), .ref (qt + 14), .ref (qt + 75), .int (bv), .ref (qt + 76), .int (bl)])) := (fr99 (qt) (hq_tne hyqt ty5 (by simp)) (hq_tne hyqt hy44 (by simp)) (hq_tne hyqt hy45 (by simp)) (by omega)).trans (fx88)
        have fx138 : V94 (qt + 75) = some (.inl (cs 1, 30, .inl (vf))) := (fr99 (qt + 75) (hq_tne hyb75 ty5 (by simp)) (hq_tne hyb75 hy44 (by simp)) (hq_tne hyb75 hy45 (by simp)) (by omega)).trans (fx89)
        have pk139 := pk91.keep (fun x7 (hx7 : qt + 77 ≤ x7 ∧ x7 < qt + 77 + 5 * bk.2.2.2.length) => fr99 x7 (by omega) (by omega) (by omega) (by omega))
        have pk140 := pk93.keep (fr99 (qt + 1) (hq_tne hyb1 ty5 (by simp)) (hq_tne hyb1 hy44 (by simp)) (hq_tne hyb1 hy45 (by simp)) (by omega)) (fr99 (qt + 14) (hq_tne hyb14 ty5 (by simp)) (hq_tne hyb14 hy44 (by simp)) (hq_tne hyb14 hy45 (by simp)) (by omega)) (fr99 (qt + 76) (hq_tne hyb76 ty5 (by simp)) (hq_tne hyb76 hy44 (by simp)) (hq_tne hyb76 hy45 (by simp)) (by omega))
        refine hp_calli (hp_runV (As := [.int (v), .int (te), .int (pe)]) (rest := []) hx hb hml hown hts (x_isSlip l D cs B G V94 n hP.1 (a) (kb) (qt) (qb) (w) (bk) (c9) (v) (te) (pe) (c_fs) (bc) (bv) (bl) (z101) (z100) (vf)  fx119 fx137 fx138 ho107 ho105 pk139 pk140 hbl (by omega) hc9) hZ fx119 cv_X11_241 rfl rfl ⟨Nat.le_of_ble_eq_true rfl, Nat.le_of_ble_eq_true rfl⟩ rfl hl.1 rfl (Nat.le_of_ble_eq_true rfl) dX11_answer_109 ⟨(Nat.le_of_ble_eq_true rfl), (Nat.le_of_ble_eq_true rfl)⟩) hZ (fun r144 V141 n142 _ _ hw143 hZ => ?_)
        obtain ⟨rfl, rfl, hp147⟩ := hw143
        have b148 := hq_rng r144
        refine lv_if_eq (tgt := 172) hx hb dX11_answer_112 (by decide) (fun c149 => ?_) (fun c149 => ?_)
        · have c149 : (r144).toInt = (0 : Int) := hq_eqi.mp c149
          have hns : ¬ (0 < (z100).toInt ∧ (sp_nf 3 v.toInt c9 te.toInt pe.toInt bk.2.2.2 0) = -1) := by rcases hp147 with g9 | g9; (· omega); (· exact g9.2)
          refine lv_bipush (v := -5) hx hb dX11_answer_172 (by decide) ?_
          refine lv_istore (lv' := [(5, .int (-5)), (6, .null), (0, .ref (a)), (1, .int (k)), (2, .int (v)), (3, .int (te)), (4, .int (pe))]) hx hb dX11_answer_174 hl (by decide) rfl (fun ls hl => ?_)
          refine lv_aload_n hx hb dX11_answer_176 rfl (lv_at hl 2 rfl) ?_
          refine hp_get (v := .ref (kb)) hx hb hts hown hZ fx119 fl_X11_14 rfl dX11_answer_177 ?_
          refine hp_callv (hp_runV (As := []) (rest := []) hx hb hml hown hts (x_clear l D cs B G V94 n hP.1 (kb) (4000) (pz) ty1 ty2 fx120  (by decide)) hZ fx120 cv_X11_81 rfl rfl ⟨Nat.le_of_ble_eq_true rfl, Nat.le_of_ble_eq_true rfl⟩ rfl hl.1 rfl (Nat.le_of_ble_eq_true rfl) dX11_answer_180 ⟨(Nat.le_of_ble_eq_true rfl), (Nat.le_of_ble_eq_true rfl)⟩) hZ (fun V150 n151 _ _ hw152 hZ => ?_)
          obtain ⟨rfl, hq154, fr155, ho156⟩ := hw152
          have hP := hP.trans hq154 (fun _ h => Bool.noConfusion h)
          refine lv_iload hx hb dX11_answer_183 (lv_at hl 0 rfl) ?_
          have hl157 : (-5 : Int32).toInt = -5 := by decide
          have fx158 : V150 (kb + 50) = some (.inr (1, [.ref (kb + 51), .ref (kb + 52), .int (e_fd), .ref (kb + 53), .ref (kb + 55), .ref (kb + 57), e_bk, e_an, e_mk, .int (e_sz), .ref (kb + 59), .ref (kb + 60), .ref (kb + 61)])) := (fr155 (kb + 50) (hq_tne ty7 ty1 (by simp))).trans ((fr99 (kb + 50) (hq_tne ty7 ty5 (by simp)) (hq_tne ty7 hy44 (by simp)) (hq_tne ty7 hy45 (by simp)) (by omega)).trans ((hq65.2 (kb + 50) _ ty7 rfl).trans (hc1)))
          have fx159 : V150 (kb + 59) = some (.inl (cs 1, 2, .inl (kk))) := (fr155 (kb + 59) (hq_tne ty13 ty1 (by simp))).trans ((fr99 (kb + 59) (hq_tne ty13 ty5 (by simp)) (hq_tne ty13 hy44 (by simp)) (hq_tne ty13 hy45 (by simp)) (by omega)).trans ((hq65.2 (kb + 59) _ ty13 rfl).trans (hc4)))
          have fx160 : V150 (kb + 60) = some (.inl (cs 1, 2, .inl (mm))) := (fr155 (kb + 60) (hq_tne ty14 ty1 (by simp))).trans ((fr99 (kb + 60) (hq_tne ty14 ty5 (by simp)) (hq_tne ty14 hy44 (by simp)) (hq_tne ty14 hy45 (by simp)) (by omega)).trans ((hq65.2 (kb + 60) _ ty14 rfl).trans (hc5)))
          have fx161 : V150 (kb + 61) = some (.inl (cs 1, 2, .inl (tt_))) := (fr155 (kb + 61) (hq_tne ty15 ty1 (by simp))).trans ((fr99 (kb + 61) (hq_tne ty15 ty5 (by simp)) (hq_tne ty15 hy44 (by simp)) (hq_tne ty15 hy45 (by simp)) (by omega)).trans ((hq65.2 (kb + 61) _ ty15 rfl).trans (hc6)))
          have fx162 : V150 (a) = some (.inr (11, [.ref (kb), .ref (kb + 2), .ref (kb + 5), .ref (kb + 46), .ref (kb + 50), .ref (kb + 62), .ref (kb + 87), .int (c_fs), .ref (qt), .ref (qb)])) := (fr155 (a) (hq_tne ty0 ty1 (by simp))).trans (fx119)
          have fx163 : V150 (kb + 7) = some (.inl (cs 4, 4, .inr (.inr (.inr (.inr (gf)))))) := (fr155 (kb + 7) (hq_tne hy7 ty1 (by simp))).trans (ho106)
          exact hp_iret hx hb hr hlocks hZ ⟨rfl, hP, (fun x8 hne0 hne1 hne2 hne3 hne4 hne5 hne6 hne7 hne8 hne9 hne10 hne11 hne12 hne13 hne14 hne15 hne16 hne17 => (fr155 x8 hne0).trans ((fr99 x8 hne1 hne2 hne3 hne16).trans (hx_fg (x := x8) hq65 (by obtain ⟨t9, h91, h92⟩ := hne17; exact ⟨t9, h91, by simp_all⟩)))), e_fd, e_sz, e_bk, e_an, e_mk, kk, mm, tt_, fx162, ho156, fx158, fx159, fx160, fx161, fx163, Or.inr ⟨(sp_Z.no hFV (Or.inl (List.eq_nil_of_length_eq_zero (by omega)))), rfl, rfl, rfl, rfl⟩, by omega⟩ dX11_answer_185
        · have c149 : ¬ (r144).toInt = (0 : Int) := fun h9 => c149 (hq_eqi.mpr h9)
          have hys : 0 < (z100).toInt ∧ (sp_nf 3 v.toInt c9 te.toInt pe.toInt bk.2.2.2 0) = -1 := by rcases hp147 with g9 | g9; (· exact g9.2); (· omega)
          refine lv_aload_n hx hb dX11_answer_115 rfl (lv_at hl 2 rfl) ?_
          refine hp_get (v := .ref (kb + 50)) hx hb hts hown hZ fx119 fl_X11_42 rfl dX11_answer_116 ?_
          refine lv_aload_n hx hb dX11_answer_119 rfl (lv_at hl 2 rfl) ?_
          refine hp_get (v := .ref (qt)) hx hb hts hown hZ fx119 fl_X11_64 rfl dX11_answer_120 ?_
          refine lv_aload_n hx hb dX11_answer_123 rfl (lv_at hl 2 rfl) ?_
          refine hp_get (v := .ref (kb)) hx hb hts hown hZ fx119 fl_X11_14 rfl dX11_answer_124 ?_
          refine lv_aload_n hx hb dX11_answer_127 rfl (lv_at hl 2 rfl) ?_
          refine hp_get (v := .ref (kb + 5)) hx hb hts hown hZ fx119 fl_X11_28 rfl dX11_answer_128 ?_
          refine lv_iload_n hx hb dX11_answer_131 rfl (lv_at hl 4 rfl) ?_
          refine lv_iload_n hx hb dX11_answer_132 rfl (lv_at hl 5 rfl) ?_
          refine lv_iload hx hb dX11_answer_133 (lv_at hl 6 rfl) ?_
          obtain ⟨z164, eV165, h166, h167⟩ := hx_oT hP.1 ty10
          obtain ⟨-, g168, eV169, hf170⟩ := hq_o1 hP.1 hy54
          obtain ⟨z171, eV172, h173, h174⟩ := hx_oT hP.1 ty11
          obtain ⟨-, g175, eV176, hf177⟩ := hq_o1 hP.1 hy56
          obtain ⟨z178, eV179, h180, h181⟩ := hx_oT hP.1 ty12
          obtain ⟨-, g182, eV183, hf184⟩ := hq_o1 hP.1 hy58
          obtain ⟨z185, eV186, h187, h188⟩ := hx_oT hP.1 hy44
          obtain ⟨-, g189, eV190, hf191⟩ := hq_o1 hP.1 hy45
          have hqq : ((sp_nf 4 v.toInt c9 te.toInt pe.toInt bk.2.2.2 0) = -1 ∧ sp_qv bk v.toInt te.toInt pe.toInt = 0) ∨ (¬ (sp_nf 4 v.toInt c9 te.toInt pe.toInt bk.2.2.2 0) = -1 ∧ sp_qv bk v.toInt te.toInt pe.toInt = 1) := by have h9 := sp_qv_is bk v.toInt te.toInt pe.toInt; unfold sp_nfv at h9; rw [hcd] at h9; exact h9
          have hTR : sp_TR w bk ask v.toInt te.toInt pe.toInt = (sp_tr (sp_M w bk.2.2.2 (sp_U w bk (sp_nm w t9)) ask) ((1000, 9, 0, 0, 0, 0) : sp_Y) (sp_wx bk.2.2.2 (sp_qv bk v.toInt te.toInt pe.toInt) (sp_nf 0 v.toInt c9 te.toInt pe.toInt bk.2.2.2 0) (sp_nf 1 v.toInt c9 te.toInt pe.toInt bk.2.2.2 0))) := by unfold sp_TR sp_nfv; rw [hcd, hnd]
          have hTL : (sp_TL w bk ask v.toInt te.toInt pe.toInt) = sp_tel (sp_nf 4 v.toInt c9 te.toInt pe.toInt bk.2.2.2 0) (sp_nf 0 v.toInt c9 te.toInt pe.toInt bk.2.2.2 0) (sp_nf 1 v.toInt c9 te.toInt pe.toInt bk.2.2.2 0) (sp_tr (sp_M w bk.2.2.2 (sp_U w bk (sp_nm w t9)) ask) ((1000, 9, 0, 0, 0, 0) : sp_Y) (sp_wx bk.2.2.2 (sp_qv bk v.toInt te.toInt pe.toInt) (sp_nf 0 v.toInt c9 te.toInt pe.toInt bk.2.2.2 0) (sp_nf 1 v.toInt c9 te.toInt pe.toInt bk.2.2.2 0))).2.2.1 (sp_tr (sp_M w bk.2.2.2 (sp_U w bk (sp_nm w t9)) ask) ((1000, 9, 0, 0, 0, 0) : sp_Y) (sp_wx bk.2.2.2 (sp_qv bk v.toInt te.toInt pe.toInt) (sp_nf 0 v.toInt c9 te.toInt pe.toInt bk.2.2.2 0) (sp_nf 1 v.toInt c9 te.toInt pe.toInt bk.2.2.2 0))).2.2.2.1 (sp_tr (sp_M w bk.2.2.2 (sp_U w bk (sp_nm w t9)) ask) ((1000, 9, 0, 0, 0, 0) : sp_Y) (sp_wx bk.2.2.2 (sp_qv bk v.toInt te.toInt pe.toInt) (sp_nf 0 v.toInt c9 te.toInt pe.toInt bk.2.2.2 0) (sp_nf 1 v.toInt c9 te.toInt pe.toInt bk.2.2.2 0))).2.2.2.2.1 (sp_tr (sp_M w bk.2.2.2 (sp_U w bk (sp_nm w t9)) ask) ((1000, 9, 0, 0, 0, 0) : sp_Y) (sp_wx bk.2.2.2 (sp_qv bk v.toInt te.toInt pe.toInt) (sp_nf 0 v.toInt c9 te.toInt pe.toInt bk.2.2.2 0) (sp_nf 1 v.toInt c9 te.toInt pe.toInt bk.2.2.2 0))).2.2.2.2.2 := by unfold sp_TL; rw [hTR]; unfold sp_nfv; rw [hcd]
          have fx192 : V94 (kb + 50) = some (.inr (1, [.ref (kb + 51), .ref (kb + 52), .int (e_fd), .ref (kb + 53), .ref (kb + 55), .ref (kb + 57), e_bk, e_an, e_mk, .int (e_sz), .ref (kb + 59), .ref (kb + 60), .ref (kb + 61)])) := (fr99 (kb + 50) (hq_tne ty7 ty5 (by simp)) (hq_tne ty7 hy44 (by simp)) (hq_tne ty7 hy45 (by simp)) (by omega)).trans ((hq65.2 (kb + 50) _ ty7 rfl).trans (hc1))
          obtain ⟨z194, z195, z196, z197, z198, z199, z200, eV193, h201, h202⟩ := hq_o13 hP.1 ty8
          obtain ⟨z204, z205, z206, z207, z208, z209, z210, eV203, h211, h212⟩ := hq_o13 hP.1 ty9
          have fx213 : V94 (kb + 59) = some (.inl (cs 1, 2, .inl (kk))) := (fr99 (kb + 59) (hq_tne ty13 ty5 (by simp)) (hq_tne ty13 hy44 (by simp)) (hq_tne ty13 hy45 (by simp)) (by omega)).trans ((hq65.2 (kb + 59) _ ty13 rfl).trans (hc4))
          have fx214 : V94 (kb + 60) = some (.inl (cs 1, 2, .inl (mm))) := (fr99 (kb + 60) (hq_tne ty14 ty5 (by simp)) (hq_tne ty14 hy44 (by simp)) (hq_tne ty14 hy45 (by simp)) (by omega)).trans ((hq65.2 (kb + 60) _ ty14 rfl).trans (hc5))
          have fx215 : V94 (kb + 61) = some (.inl (cs 1, 2, .inl (tt_))) := (fr99 (kb + 61) (hq_tne ty15 ty5 (by simp)) (hq_tne ty15 hy44 (by simp)) (hq_tne ty15 hy45 (by simp)) (by omega)).trans ((hq65.2 (kb + 61) _ ty15 rfl).trans (hc6))
          have pk216 := pk92.keep (fun x7 (hx7 : qt + 15 ≤ x7 ∧ x7 < qt + 15 + 2 * bk.2.1.length) => fr99 x7 (by omega) (by omega) (by omega) (by omega))
          refine hp_calli (hp_runV (As := [.ref (qt), .ref (kb), .ref (kb + 5), .int (v), .int (te), .int (pe)]) (rest := []) hx hb hml hown hts (x_explain l D cs B G V94 n hP.1 (kb) (qt) (kb + 6) (kb + 24) (kb + 34) (kb + 44) (1) (t9) (w) (bk) (ask) (c9) ((sp_nf 4 v.toInt c9 te.toInt pe.toInt bk.2.2.2 0)) ((sp_nf 0 v.toInt c9 te.toInt pe.toInt bk.2.2.2 0)) ((sp_nf 1 v.toInt c9 te.toInt pe.toInt bk.2.2.2 0)) (sp_qv bk v.toInt te.toInt pe.toInt) (v) (te) (pe) (e_fd) (e_sz) (z101) (bc) (bv) (bl) (e_bk) (e_an) (e_mk) (z194) (z195) (z196) (z197) (z198) (z199) (z200) (z204) (z205) (z206) (z207) (z208) (z209) (z210) (z164) (g168) (z171) (g175) (z178) (g182) (pz) (pf) (z185) (g189) (vf) (kk) (mm) (tt_) ty7 ty8 ty9 ty11 hy56 ty12 hy58 ty1 ty2 ty5 hy6 hy24 hy34 hy44 hy45 ty10 hy54 ty13 ty14 ty15 fx192 eV193 eV203 eV165 eV169 eV172 eV176 eV179 eV183 fx120 fx121 ho107 eV186 eV190 fx137 fx138 fx213 fx214 fx215 pk139 pk216 pk140 hbl hgd hgd2 hBT hask ht9 (by omega) hc9 hg8 hnl rfl rfl rfl hqq (by omega) (by omega) ⟨rfl, rfl, rfl, rfl⟩ (by omega) (by omega)) hZ fx192 cv_X11_244 rfl rfl ⟨Nat.le_of_ble_eq_true rfl, Nat.le_of_ble_eq_true rfl⟩ rfl hl.1 rfl (Nat.le_of_ble_eq_true rfl) dX11_answer_135 ⟨(Nat.le_of_ble_eq_true rfl), (Nat.le_of_ble_eq_true rfl)⟩) hZ (fun r220 V217 n218 _ _ hw219 hZ => ?_)
          obtain ⟨rfl, hq221, fr222, z223, z224, z225, z226, z227, z228, z229, z230, z231, z232, z233, z234, z235, z236, z237, z238, u239, z240, u241, z242, z243, u244, z245, u246, z247, u248, u249, u250, ho251, ho252, ho253, ho254, ho255, ho256, ho257, ho258, ho259, ho260, ho261, ho262, ho263, ho264, ho265, hp266, hp267⟩ := hw219
          have b268 := hq_rng z223
          have b269 := hq_rng z224
          have b270 := hq_rng z225
          have b271 := hq_rng z226
          have b272 := hq_rng z227
          have b273 := hq_rng z228
          have b274 := hq_rng z229
          have b275 := hq_rng z230
          have b276 := hq_rng z231
          have b277 := hq_rng z232
          have b278 := hq_rng z233
          have b279 := hq_rng z234
          have b280 := hq_rng z235
          have b281 := hq_rng z236
          have b282 := hq_rng z237
          have b283 := hq_rng z238
          have b284 := hq_rng z240
          have b285 := hq_rng z242
          have b286 := hq_rng z243
          have b287 := hq_rng z245
          have b288 := hq_rng z247
          have hP := hP.trans hq221 (fun _ h => Bool.noConfusion h)
          have hf289 := hq_rgB hP.1 hy54 ho255
          have hf290 := hq_rgB hP.1 hy56 ho257
          have hf291 := hq_rgB hP.1 hy58 ho260
          have hf292 := hq_rgB hP.1 hy45 ho262
          have hf293 := hq_rg2 hP.1 ty13 ho263
          have hf294 := hq_rg2 hP.1 ty14 ho264
          have hf295 := hq_rg2 hP.1 ty15 ho265
          have b296 := hq_rng r220
          have hxp := hp266
          rw [← hTL, ← hTR] at hxp
          have b297 := hp267
          refine lv_if_eq (tgt := 172) hx hb dX11_answer_138 (by decide) (fun c298 => ?_) (fun c298 => ?_)
          · have c298 : (r220).toInt = (0 : Int) := hq_eqi.mp c298
            obtain ⟨hxn, hx5, hx6, hx7, hx8⟩ : (sp_TR w bk ask v.toInt te.toInt pe.toInt).1 = 1000 ∧ z247 = e_sz ∧ u248 = kk ∧ u249 = mm ∧ u250 = tt_ := by rcases hxp with g9 | g9; (· omega); (· exact g9.2)
            refine lv_bipush (v := -5) hx hb dX11_answer_172 (by decide) ?_
            refine lv_istore (lv' := [(5, .int (-5)), (6, .null), (0, .ref (a)), (1, .int (k)), (2, .int (v)), (3, .int (te)), (4, .int (pe))]) hx hb dX11_answer_174 hl (by decide) rfl (fun ls hl => ?_)
            refine lv_aload_n hx hb dX11_answer_176 rfl (lv_at hl 2 rfl) ?_
            have fx299 : V217 (a) = some (.inr (11, [.ref (kb), .ref (kb + 2), .ref (kb + 5), .ref (kb + 46), .ref (kb + 50), .ref (kb + 62), .ref (kb + 87), .int (c_fs), .ref (qt), .ref (qb)])) := (fr222 (a) (hq_tne ty0 ty7 (by simp)) (hq_tne ty0 ty8 (by simp)) (hq_tne ty0 ty9 (by simp)) (hq_tne ty0 ty10 (by simp)) (hq_tne ty0 hy54 (by simp)) (hq_tne ty0 ty11 (by simp)) (hq_tne ty0 hy56 (by simp)) (hq_tne ty0 ty5 (by simp)) (hq_tne ty0 ty12 (by simp)) (hq_tne ty0 hy58 (by simp)) (hq_tne ty0 hy44 (by simp)) (hq_tne ty0 hy45 (by simp)) (hq_tne ty0 ty13 (by simp)) (hq_tne ty0 ty14 (by simp)) (hq_tne ty0 ty15 (by simp))).trans (fx119)
            refine hp_get (v := .ref (kb)) hx hb hts hown hZ fx299 fl_X11_14 rfl dX11_answer_177 ?_
            have fx300 : V217 (kb) = some (.inr (9, [.ref (kb + 1), .int (pz)])) := (fr222 (kb) (hq_tne ty1 ty7 (by simp)) (hq_tne ty1 ty8 (by simp)) (hq_tne ty1 ty9 (by simp)) (hq_tne ty1 ty10 (by simp)) (hq_tne ty1 hy54 (by simp)) (hq_tne ty1 ty11 (by simp)) (hq_tne ty1 hy56 (by simp)) (hq_tne ty1 ty5 (by simp)) (hq_tne ty1 ty12 (by simp)) (hq_tne ty1 hy58 (by simp)) (hq_tne ty1 hy44 (by simp)) (hq_tne ty1 hy45 (by simp)) (hq_tne ty1 ty13 (by simp)) (hq_tne ty1 ty14 (by simp)) (hq_tne ty1 ty15 (by simp))).trans (fx120)
            refine hp_callv (hp_runV (As := []) (rest := []) hx hb hml hown hts (x_clear l D cs B G V217 n hP.1 (kb) (4000) (pz) ty1 ty2 fx300  (by decide)) hZ fx300 cv_X11_81 rfl rfl ⟨Nat.le_of_ble_eq_true rfl, Nat.le_of_ble_eq_true rfl⟩ rfl hl.1 rfl (Nat.le_of_ble_eq_true rfl) dX11_answer_180 ⟨(Nat.le_of_ble_eq_true rfl), (Nat.le_of_ble_eq_true rfl)⟩) hZ (fun V301 n302 _ _ hw303 hZ => ?_)
            obtain ⟨rfl, hq305, fr306, ho307⟩ := hw303
            have hP := hP.trans hq305 (fun _ h => Bool.noConfusion h)
            refine lv_iload hx hb dX11_answer_183 (lv_at hl 0 rfl) ?_
            have hl308 : (-5 : Int32).toInt = -5 := by decide
            have fx309 : V301 (kb + 50) = some (.inr (1, [.ref (kb + 51), .ref (kb + 52), .int (z223), .ref (kb + 53), .ref (kb + 55), .ref (kb + 57), .ref (qt), .ref (kb), .ref (kb + 5), .int (z247), .ref (kb + 59), .ref (kb + 60), .ref (kb + 61)])) := (fr306 (kb + 50) (hq_tne ty7 ty1 (by simp))).trans (ho251)
            have fx310 : V301 (kb + 59) = some (.inl (cs 1, 2, .inl (u248))) := (fr306 (kb + 59) (hq_tne ty13 ty1 (by simp))).trans (ho263)
            have fx311 : V301 (kb + 60) = some (.inl (cs 1, 2, .inl (u249))) := (fr306 (kb + 60) (hq_tne ty14 ty1 (by simp))).trans (ho264)
            have fx312 : V301 (kb + 61) = some (.inl (cs 1, 2, .inl (u250))) := (fr306 (kb + 61) (hq_tne ty15 ty1 (by simp))).trans (ho265)
            have fx313 : V301 (a) = some (.inr (11, [.ref (kb), .ref (kb + 2), .ref (kb + 5), .ref (kb + 46), .ref (kb + 50), .ref (kb + 62), .ref (kb + 87), .int (c_fs), .ref (qt), .ref (qb)])) := (fr306 (a) (hq_tne ty0 ty1 (by simp))).trans (fx299)
            have fx314 : V301 (kb + 7) = some (.inl (cs 4, 4, .inr (.inr (.inr (.inr (gf)))))) := (fr306 (kb + 7) (hq_tne hy7 ty1 (by simp))).trans ((fr222 (kb + 7) (hq_tne hy7 ty7 (by simp)) (hq_tne hy7 ty8 (by simp)) (hq_tne hy7 ty9 (by simp)) (hq_tne hy7 ty10 (by simp)) (hq_tne hy7 hy54 (by simp)) (hq_tne hy7 ty11 (by simp)) (hq_tne hy7 hy56 (by simp)) (hq_tne hy7 ty5 (by simp)) (hq_tne hy7 ty12 (by simp)) (hq_tne hy7 hy58 (by simp)) (hq_tne hy7 hy44 (by simp)) (hq_tne hy7 hy45 (by simp)) (hq_tne hy7 ty13 (by simp)) (hq_tne hy7 ty14 (by simp)) (hq_tne hy7 ty15 (by simp))).trans (ho106))
            exact hp_iret hx hb hr hlocks hZ ⟨rfl, hP, (fun x8 hne0 hne1 hne2 hne3 hne4 hne5 hne6 hne7 hne8 hne9 hne10 hne11 hne12 hne13 hne14 hne15 hne16 hne17 => (fr306 x8 hne0).trans ((fr222 x8 hne4 hne5 hne6 hne7 hne8 hne9 hne10 hne1 hne11 hne12 hne2 hne3 hne13 hne14 hne15).trans ((fr99 x8 hne1 hne2 hne3 hne16).trans (hx_fg (x := x8) hq65 (by obtain ⟨t9, h91, h92⟩ := hne17; exact ⟨t9, h91, by simp_all⟩))))), z223, z247, .ref (qt), .ref (kb), .ref (kb + 5), u248, u249, u250, fx313, ho307, fx309, fx310, fx311, fx312, fx314, Or.inr ⟨(fun g9 => g9.2.2.2 hxn), hx5, hx6, hx7, hx8⟩, by omega⟩ dX11_answer_185
          · have c298 : ¬ (r220).toInt = (0 : Int) := fun h9 => c298 (hq_eqi.mpr h9)
            obtain ⟨hxn, hxc⟩ : ¬ (sp_TR w bk ask v.toInt te.toInt pe.toInt).1 = 1000 ∧ sp_hl z247 u248 u249 u250 (sp_TL w bk ask v.toInt te.toInt pe.toInt) := by rcases hxp with g9 | g9; (· exact g9.2); (· omega)
            refine lv_aload_n hx hb dX11_answer_141 rfl (lv_at hl 2 rfl) ?_
            have fx315 : V217 (a) = some (.inr (11, [.ref (kb), .ref (kb + 2), .ref (kb + 5), .ref (kb + 46), .ref (kb + 50), .ref (kb + 62), .ref (kb + 87), .int (c_fs), .ref (qt), .ref (qb)])) := (fr222 (a) (hq_tne ty0 ty7 (by simp)) (hq_tne ty0 ty8 (by simp)) (hq_tne ty0 ty9 (by simp)) (hq_tne ty0 ty10 (by simp)) (hq_tne ty0 hy54 (by simp)) (hq_tne ty0 ty11 (by simp)) (hq_tne ty0 hy56 (by simp)) (hq_tne ty0 ty5 (by simp)) (hq_tne ty0 ty12 (by simp)) (hq_tne ty0 hy58 (by simp)) (hq_tne ty0 hy44 (by simp)) (hq_tne ty0 hy45 (by simp)) (hq_tne ty0 ty13 (by simp)) (hq_tne ty0 ty14 (by simp)) (hq_tne ty0 ty15 (by simp))).trans (fx119)
            refine hp_get (v := .ref (kb + 62)) hx hb hts hown hZ fx315 fl_X11_48 rfl dX11_answer_142 ?_
            refine lv_iload_n hx hb dX11_answer_145 rfl (lv_at hl 3 rfl) ?_
            have fx316 : V217 (kb + 62) = some (.inl (cs 5, 8, .inr (.inr (.inr (.inr (g48)))))) := (fr222 (kb + 62) (hq_tne ty16 ty7 (by simp)) (hq_tne ty16 ty8 (by simp)) (hq_tne ty16 ty9 (by simp)) (hq_tne ty16 ty10 (by simp)) (hq_tne ty16 hy54 (by simp)) (hq_tne ty16 ty11 (by simp)) (hq_tne ty16 hy56 (by simp)) (hq_tne ty16 ty5 (by simp)) (hq_tne ty16 ty12 (by simp)) (hq_tne ty16 hy58 (by simp)) (hq_tne ty16 hy44 (by simp)) (hq_tne ty16 hy45 (by simp)) (hq_tne ty16 ty13 (by simp)) (hq_tne ty16 ty14 (by simp)) (hq_tne ty16 ty15 (by simp))).trans ((fr99 (kb + 62) (hq_tne ty16 ty5 (by simp)) (hq_tne ty16 hy44 (by simp)) (hq_tne ty16 hy45 (by simp)) (by omega)).trans ((hq65.2 (kb + 62) _ ty16 rfl).trans (eV47)))
            obtain ⟨u317, hx318, hu319⟩ := hf50 (k : Int32).toNatClampNeg (hq_ix (by omega) (by omega))
            have hu319 : G u317 = some (9, 0, 0, 0) := hu319
            refine hp_aald (v := .ref (u317)) hx hb hZ 5 fx316 rfl (hq_in (by omega) (by omega)) (by rw [hx318]; rfl) dX11_answer_146 ?_
            refine lv_aload_n hx hb dX11_answer_147 rfl (lv_at hl 2 rfl) ?_
            refine hp_get (v := .ref (kb + 50)) hx hb hts hown hZ fx315 fl_X11_42 rfl dX11_answer_148 ?_
            refine hp_calll (hp_runV (As := []) (rest := [.ref (u317)]) hx hb hml hown hts (x_mbits l D cs B G V217 n hP.1 (kb) (qt) (z223) (z247) (u249)  ho251 ho264  (by omega)) hZ ho251 cv_X11_248 rfl rfl ⟨Nat.le_of_ble_eq_true rfl, Nat.le_of_ble_eq_true rfl⟩ rfl hl.1 rfl (Nat.le_of_ble_eq_true rfl) dX11_answer_151 ⟨(Nat.le_of_ble_eq_true rfl), (Nat.le_of_ble_eq_true rfl)⟩) hZ (fun r323 V320 n321 _ _ hw322 hZ => ?_)
            obtain ⟨rfl, rfl⟩ := hw322
            obtain ⟨u333, u334, eV332, hu335, hu336⟩ := hq_o9 hP.1 hu319
            refine hp_callv (hp_runV (As := [.long (r323)]) (rest := []) hx hb hml hown hts (t_X4_miss l D cs B G  V217 n hP.1  (u317) hu319 (r323) ) hZ eV332 cv_X11_251 rfl rfl ⟨Nat.le_of_ble_eq_true rfl, Nat.le_of_ble_eq_true rfl⟩ rfl hl.1 rfl (Nat.le_of_ble_eq_true rfl) dX11_answer_154 ⟨(Nat.le_of_ble_eq_true rfl), (Nat.le_of_ble_eq_true rfl)⟩) hZ (fun V326 n327 _ _ hw328 hZ => ?_)
            obtain ⟨rfl, hq330⟩ := hw328
            have hP := hP.trans hq330 (fun _ h => Bool.noConfusion h)
            refine lv_aload_n hx hb dX11_answer_157 rfl (lv_at hl 2 rfl) ?_
            have fx337 : V326 (a) = some (.inr (11, [.ref (kb), .ref (kb + 2), .ref (kb + 5), .ref (kb + 46), .ref (kb + 50), .ref (kb + 62), .ref (kb + 87), .int (c_fs), .ref (qt), .ref (qb)])) := (hq330.2 (a) _ ty0 rfl).trans (fx315)
            refine hp_get (v := .ref (kb + 50)) hx hb hts hown hZ fx337 fl_X11_42 rfl dX11_answer_158 ?_
            have fx338 : V326 (kb + 50) = some (.inr (1, [.ref (kb + 51), .ref (kb + 52), .int (z223), .ref (kb + 53), .ref (kb + 55), .ref (kb + 57), .ref (qt), .ref (kb), .ref (kb + 5), .int (z247), .ref (kb + 59), .ref (kb + 60), .ref (kb + 61)])) := (hq330.2 (kb + 50) _ ty7 rfl).trans (ho251)
            refine hp_get (v := .ref (kb + 51)) hx hb hts hown hZ fx338 fl_X11_254 rfl dX11_answer_161 ?_
            have fx339 : V326 (kb + 51) = some (.inr (10, [.int (z224), .int (z225), .int (z226), .int (z227), .int (z228), .int (z229), .int (z230)])) := (hq330.2 (kb + 51) _ ty8 rfl).trans (ho252)
            refine hp_calli (hp_runV (As := []) (rest := []) hx hb hml hown hts (x_cost l D cs B G V326 n hP.1 (kb + 51) (z224) (z225) (z226) (z227) (z228) (z229) (z230)  fx339  ) hZ fx339 cv_X11_258 rfl rfl ⟨Nat.le_of_ble_eq_true rfl, Nat.le_of_ble_eq_true rfl⟩ rfl hl.1 rfl (Nat.le_of_ble_eq_true rfl) dX11_answer_164 ⟨(Nat.le_of_ble_eq_true rfl), (Nat.le_of_ble_eq_true rfl)⟩) hZ (fun r343 V340 n341 _ _ hw342 hZ => ?_)
            obtain ⟨rfl, rfl, hp346⟩ := hw342
            have b347 := hq_rng r343
            refine lv_istore (lv' := [(5, .int (r343)), (6, .null), (0, .ref (a)), (1, .int (k)), (2, .int (v)), (3, .int (te)), (4, .int (pe))]) hx hb dX11_answer_167 hl (by decide) rfl (fun ls hl => ?_)
            refine lv_goto (tgt := 176) hx hb dX11_answer_169 (by decide) ?_
            refine lv_aload_n hx hb dX11_answer_176 rfl (lv_at hl 2 rfl) ?_
            refine hp_get (v := .ref (kb)) hx hb hts hown hZ fx337 fl_X11_14 rfl dX11_answer_177 ?_
            have fx348 : V326 (kb) = some (.inr (9, [.ref (kb + 1), .int (pz)])) := (hq330.2 (kb) _ ty1 rfl).trans ((fr222 (kb) (hq_tne ty1 ty7 (by simp)) (hq_tne ty1 ty8 (by simp)) (hq_tne ty1 ty9 (by simp)) (hq_tne ty1 ty10 (by simp)) (hq_tne ty1 hy54 (by simp)) (hq_tne ty1 ty11 (by simp)) (hq_tne ty1 hy56 (by simp)) (hq_tne ty1 ty5 (by simp)) (hq_tne ty1 ty12 (by simp)) (hq_tne ty1 hy58 (by simp)) (hq_tne ty1 hy44 (by simp)) (hq_tne ty1 hy45 (by simp)) (hq_tne ty1 ty13 (by simp)) (hq_tne ty1 ty14 (by simp)) (hq_tne ty1 ty15 (by simp))).trans (fx120))
            refine hp_callv (hp_runV (As := []) (rest := []) hx hb hml hown hts (x_clear l D cs B G V326 n hP.1 (kb) (4000) (pz) ty1 ty2 fx348  (by decide)) hZ fx348 cv_X11_81 rfl rfl ⟨Nat.le_of_ble_eq_true rfl, Nat.le_of_ble_eq_true rfl⟩ rfl hl.1 rfl (Nat.le_of_ble_eq_true rfl) dX11_answer_180 ⟨(Nat.le_of_ble_eq_true rfl), (Nat.le_of_ble_eq_true rfl)⟩) hZ (fun V349 n350 _ _ hw351 hZ => ?_)
            obtain ⟨rfl, hq353, fr354, ho355⟩ := hw351
            have hP := hP.trans hq353 (fun _ h => Bool.noConfusion h)
            refine lv_iload hx hb dX11_answer_183 (lv_at hl 0 rfl) ?_
            have fx356 : V349 (kb + 50) = some (.inr (1, [.ref (kb + 51), .ref (kb + 52), .int (z223), .ref (kb + 53), .ref (kb + 55), .ref (kb + 57), .ref (qt), .ref (kb), .ref (kb + 5), .int (z247), .ref (kb + 59), .ref (kb + 60), .ref (kb + 61)])) := (fr354 (kb + 50) (hq_tne ty7 ty1 (by simp))).trans (fx338)
            have fx357 : V349 (kb + 59) = some (.inl (cs 1, 2, .inl (u248))) := (fr354 (kb + 59) (hq_tne ty13 ty1 (by simp))).trans ((hq330.2 (kb + 59) _ ty13 rfl).trans (ho263))
            have fx358 : V349 (kb + 60) = some (.inl (cs 1, 2, .inl (u249))) := (fr354 (kb + 60) (hq_tne ty14 ty1 (by simp))).trans ((hq330.2 (kb + 60) _ ty14 rfl).trans (ho264))
            have fx359 : V349 (kb + 61) = some (.inl (cs 1, 2, .inl (u250))) := (fr354 (kb + 61) (hq_tne ty15 ty1 (by simp))).trans ((hq330.2 (kb + 61) _ ty15 rfl).trans (ho265))
            have fx360 : V349 (a) = some (.inr (11, [.ref (kb), .ref (kb + 2), .ref (kb + 5), .ref (kb + 46), .ref (kb + 50), .ref (kb + 62), .ref (kb + 87), .int (c_fs), .ref (qt), .ref (qb)])) := (fr354 (a) (hq_tne ty0 ty1 (by simp))).trans (fx337)
            have fx361 : V349 (kb + 7) = some (.inl (cs 4, 4, .inr (.inr (.inr (.inr (gf)))))) := (fr354 (kb + 7) (hq_tne hy7 ty1 (by simp))).trans ((hq330.2 (kb + 7) _ hy7 rfl).trans ((fr222 (kb + 7) (hq_tne hy7 ty7 (by simp)) (hq_tne hy7 ty8 (by simp)) (hq_tne hy7 ty9 (by simp)) (hq_tne hy7 ty10 (by simp)) (hq_tne hy7 hy54 (by simp)) (hq_tne hy7 ty11 (by simp)) (hq_tne hy7 hy56 (by simp)) (hq_tne hy7 ty5 (by simp)) (hq_tne hy7 ty12 (by simp)) (hq_tne hy7 hy58 (by simp)) (hq_tne hy7 hy44 (by simp)) (hq_tne hy7 hy45 (by simp)) (hq_tne hy7 ty13 (by simp)) (hq_tne hy7 ty14 (by simp)) (hq_tne hy7 ty15 (by simp))).trans (ho106)))
            exact hp_iret hx hb hr hlocks hZ ⟨rfl, hP, (fun x8 hne0 hne1 hne2 hne3 hne4 hne5 hne6 hne7 hne8 hne9 hne10 hne11 hne12 hne13 hne14 hne15 hne16 hne17 => (fr354 x8 hne0).trans ((hx_fg (x := x8) hq330 (by obtain ⟨t9, h91, h92⟩ := hne17; exact ⟨t9, h91, by simp_all⟩)).trans ((fr222 x8 hne4 hne5 hne6 hne7 hne8 hne9 hne10 hne1 hne11 hne12 hne2 hne3 hne13 hne14 hne15).trans ((fr99 x8 hne1 hne2 hne3 hne16).trans (hx_fg (x := x8) hq65 (by obtain ⟨t9, h91, h92⟩ := hne17; exact ⟨t9, h91, by simp_all⟩)))))), z223, z247, .ref (qt), .ref (kb), .ref (kb + 5), u248, u249, u250, fx360, ho355, fx356, fx357, fx358, fx359, fx361, Or.inl ⟨⟨⟨by omega, by omega, by omega, by omega⟩, hn39, ⟨u104, hFV, (fun g9 => by have h9 := congrArg List.length g9; have h8 : ([] : List (List Int)).length = 0 := rfl; omega), hfd.2⟩, hxn⟩, hxc⟩, by omega⟩ dX11_answer_185
      · have hfd9 := hfd
        obtain ⟨it9, hit9⟩ : ∃ t, t = kb + 6 + 2 + 4 * (r125 : Int32).toNatClampNeg := ⟨_, rfl⟩
        have hzit9 := (hq_nn (z := r125) (by omega)).1
        have hyit9 := hFT it9 (r125 : Int32).toNatClampNeg (by omega) hit9
        refine hp_callq (hp_runV (As := [.int (r125)]) (rest := []) hx hb hml hown hts (x_getSome l D cs B G V94 n hP.1 (kb + 6) (it9) (r125) (z100) (gf)  ho105 ho106  hgf hit9 (by omega)) hZ ho105 cv_X11_230 rfl rfl ⟨Nat.le_of_ble_eq_true rfl, Nat.le_of_ble_eq_true rfl⟩ rfl hl.1 rfl (Nat.le_of_ble_eq_true rfl) dX11_answer_74 ⟨(Nat.le_of_ble_eq_true rfl), (Nat.le_of_ble_eq_true rfl)⟩) hZ (fun r365 V362 n363 _ _ hw364 hZ => ?_)
        obtain ⟨rfl, rfl, hp368⟩ := hw364
        subst hp368
        refine W.eq (g2 := F0 m 77 ls [.ref (it9)]) rfl ?_
        refine lv_astore (lv' := [(6, .ref (it9)), (5, .int (-2)), (0, .ref (a)), (1, .int (k)), (2, .int (v)), (3, .int (te)), (4, .int (pe))]) hx hb dX11_answer_77 hl (by decide) rfl (fun ls hl => ?_)
        refine lv_aload hx hb dX11_answer_79 (lv_at hl 0 rfl) ?_
        refine lv_ifnull hx hb dX11_answer_81 ?_
        refine lv_aload_n hx hb dX11_answer_84 rfl (lv_at hl 2 rfl) ?_
        refine hp_get (v := .ref (kb + 62)) hx hb hts hown hZ fx119 fl_X11_48 rfl dX11_answer_85 ?_
        refine lv_iload_n hx hb dX11_answer_88 rfl (lv_at hl 3 rfl) ?_
        have fx369 : V94 (kb + 62) = some (.inl (cs 5, 8, .inr (.inr (.inr (.inr (g48)))))) := (fr99 (kb + 62) (hq_tne ty16 ty5 (by simp)) (hq_tne ty16 hy44 (by simp)) (hq_tne ty16 hy45 (by simp)) (by omega)).trans ((hq65.2 (kb + 62) _ ty16 rfl).trans (eV47))
        obtain ⟨u370, hx371, hu372⟩ := hf50 (k : Int32).toNatClampNeg (hq_ix (by omega) (by omega))
        have hu372 : G u370 = some (9, 0, 0, 0) := hu372
        refine hp_aald (v := .ref (u370)) hx hb hZ 5 fx369 rfl (hq_in (by omega) (by omega)) (by rw [hx371]; rfl) dX11_answer_89 ?_
        refine lv_aload hx hb dX11_answer_90 (lv_at hl 0 rfl) ?_
        obtain ⟨u380, u381, z382, eV379, hu383, hu384, h385, h386⟩ := hq_o7 hP.1 hyit9.1
        refine hp_calll (hp_runV (As := []) (rest := [.ref (u370)]) hx hb hml hown hts (t_X2_lineBits l D cs B G  V94 n hP.1  (it9) hyit9.1 ) hZ eV379 cv_X11_234 rfl rfl ⟨Nat.le_of_ble_eq_true rfl, Nat.le_of_ble_eq_true rfl⟩ rfl hl.1 rfl (Nat.le_of_ble_eq_true rfl) dX11_answer_92 ⟨(Nat.le_of_ble_eq_true rfl), (Nat.le_of_ble_eq_true rfl)⟩) hZ (fun r376 V373 n374 _ _ hw375 hZ => ?_)
        obtain ⟨rfl, hq377, hr378⟩ := hw375
        have hP := hP.trans hq377 (fun _ _ => rfl)
        obtain ⟨u394, u395, eV393, hu396, hu397⟩ := hq_o9 hP.1 hu372
        refine hp_callv (hp_runV (As := [.long (r376)]) (rest := []) hx hb hml hown hts (t_X4_ease l D cs B G  V373 n hP.1  (u370) hu372 (r376) ) hZ eV393 cv_X11_237 rfl rfl ⟨Nat.le_of_ble_eq_true rfl, Nat.le_of_ble_eq_true rfl⟩ rfl hl.1 rfl (Nat.le_of_ble_eq_true rfl) dX11_answer_95 ⟨(Nat.le_of_ble_eq_true rfl), (Nat.le_of_ble_eq_true rfl)⟩) hZ (fun V387 n388 _ _ hw389 hZ => ?_)
        obtain ⟨rfl, hq391⟩ := hw389
        have hP := hP.trans hq391 (fun _ h => Bool.noConfusion h)
        refine lv_iconst (v := 0) hx hb dX11_answer_98 (by decide) ?_
        refine lv_istore (lv' := [(5, .int (0)), (6, .ref (it9)), (0, .ref (a)), (1, .int (k)), (2, .int (v)), (3, .int (te)), (4, .int (pe))]) hx hb dX11_answer_99 hl (by decide) rfl (fun ls hl => ?_)
        refine lv_goto (tgt := 176) hx hb dX11_answer_101 (by decide) ?_
        refine lv_aload_n hx hb dX11_answer_176 rfl (lv_at hl 2 rfl) ?_
        have fx398 : V387 (a) = some (.inr (11, [.ref (kb), .ref (kb + 2), .ref (kb + 5), .ref (kb + 46), .ref (kb + 50), .ref (kb + 62), .ref (kb + 87), .int (c_fs), .ref (qt), .ref (qb)])) := (hq391.2 (a) _ ty0 rfl).trans ((hq377.2 (a) _ ty0 rfl).trans (fx119))
        refine hp_get (v := .ref (kb)) hx hb hts hown hZ fx398 fl_X11_14 rfl dX11_answer_177 ?_
        have fx399 : V387 (kb) = some (.inr (9, [.ref (kb + 1), .int (pz)])) := (hq391.2 (kb) _ ty1 rfl).trans ((hq377.2 (kb) _ ty1 rfl).trans (fx120))
        refine hp_callv (hp_runV (As := []) (rest := []) hx hb hml hown hts (x_clear l D cs B G V387 n hP.1 (kb) (4000) (pz) ty1 ty2 fx399  (by decide)) hZ fx399 cv_X11_81 rfl rfl ⟨Nat.le_of_ble_eq_true rfl, Nat.le_of_ble_eq_true rfl⟩ rfl hl.1 rfl (Nat.le_of_ble_eq_true rfl) dX11_answer_180 ⟨(Nat.le_of_ble_eq_true rfl), (Nat.le_of_ble_eq_true rfl)⟩) hZ (fun V400 n401 _ _ hw402 hZ => ?_)
        obtain ⟨rfl, hq404, fr405, ho406⟩ := hw402
        have hP := hP.trans hq404 (fun _ h => Bool.noConfusion h)
        refine lv_iload hx hb dX11_answer_183 (lv_at hl 0 rfl) ?_
        have hl407 : (0 : Int32).toInt = 0 := by decide
        have fx408 : V400 (kb + 50) = some (.inr (1, [.ref (kb + 51), .ref (kb + 52), .int (e_fd), .ref (kb + 53), .ref (kb + 55), .ref (kb + 57), e_bk, e_an, e_mk, .int (e_sz), .ref (kb + 59), .ref (kb + 60), .ref (kb + 61)])) := (fr405 (kb + 50) (hq_tne ty7 ty1 (by simp))).trans ((hq391.2 (kb + 50) _ ty7 rfl).trans ((hq377.2 (kb + 50) _ ty7 rfl).trans ((fr99 (kb + 50) (hq_tne ty7 ty5 (by simp)) (hq_tne ty7 hy44 (by simp)) (hq_tne ty7 hy45 (by simp)) (by omega)).trans ((hq65.2 (kb + 50) _ ty7 rfl).trans (hc1)))))
        have fx409 : V400 (kb + 59) = some (.inl (cs 1, 2, .inl (kk))) := (fr405 (kb + 59) (hq_tne ty13 ty1 (by simp))).trans ((hq391.2 (kb + 59) _ ty13 rfl).trans ((hq377.2 (kb + 59) _ ty13 rfl).trans ((fr99 (kb + 59) (hq_tne ty13 ty5 (by simp)) (hq_tne ty13 hy44 (by simp)) (hq_tne ty13 hy45 (by simp)) (by omega)).trans ((hq65.2 (kb + 59) _ ty13 rfl).trans (hc4)))))
        have fx410 : V400 (kb + 60) = some (.inl (cs 1, 2, .inl (mm))) := (fr405 (kb + 60) (hq_tne ty14 ty1 (by simp))).trans ((hq391.2 (kb + 60) _ ty14 rfl).trans ((hq377.2 (kb + 60) _ ty14 rfl).trans ((fr99 (kb + 60) (hq_tne ty14 ty5 (by simp)) (hq_tne ty14 hy44 (by simp)) (hq_tne ty14 hy45 (by simp)) (by omega)).trans ((hq65.2 (kb + 60) _ ty14 rfl).trans (hc5)))))
        have fx411 : V400 (kb + 61) = some (.inl (cs 1, 2, .inl (tt_))) := (fr405 (kb + 61) (hq_tne ty15 ty1 (by simp))).trans ((hq391.2 (kb + 61) _ ty15 rfl).trans ((hq377.2 (kb + 61) _ ty15 rfl).trans ((fr99 (kb + 61) (hq_tne ty15 ty5 (by simp)) (hq_tne ty15 hy44 (by simp)) (hq_tne ty15 hy45 (by simp)) (by omega)).trans ((hq65.2 (kb + 61) _ ty15 rfl).trans (hc6)))))
        have fx412 : V400 (a) = some (.inr (11, [.ref (kb), .ref (kb + 2), .ref (kb + 5), .ref (kb + 46), .ref (kb + 50), .ref (kb + 62), .ref (kb + 87), .int (c_fs), .ref (qt), .ref (qb)])) := (fr405 (a) (hq_tne ty0 ty1 (by simp))).trans (fx398)
        have fx413 : V400 (kb + 7) = some (.inl (cs 4, 4, .inr (.inr (.inr (.inr (gf)))))) := (fr405 (kb + 7) (hq_tne hy7 ty1 (by simp))).trans ((hq391.2 (kb + 7) _ hy7 rfl).trans ((hq377.2 (kb + 7) _ hy7 rfl).trans (ho106)))
        exact hp_iret hx hb hr hlocks hZ ⟨rfl, hP, (fun x8 hne0 hne1 hne2 hne3 hne4 hne5 hne6 hne7 hne8 hne9 hne10 hne11 hne12 hne13 hne14 hne15 hne16 hne17 => (fr405 x8 hne0).trans ((hx_fg (x := x8) hq391 (by obtain ⟨t9, h91, h92⟩ := hne17; exact ⟨t9, h91, by simp_all⟩)).trans ((hx_fg (x := x8) hq377 (by obtain ⟨t9, h91, h92⟩ := hne17; exact ⟨t9, h91, by simp_all⟩)).trans ((fr99 x8 hne1 hne2 hne3 hne16).trans (hx_fg (x := x8) hq65 (by obtain ⟨t9, h91, h92⟩ := hne17; exact ⟨t9, h91, by simp_all⟩)))))), e_fd, e_sz, e_bk, e_an, e_mk, kk, mm, tt_, fx412, ho406, fx408, fx409, fx410, fx411, fx413, Or.inr ⟨(sp_Z.no hFV (Or.inr hfd.2.2)), rfl, rfl, rfl, rfl⟩, by omega⟩ dX11_answer_185

set_option maxHeartbeats 4000000 in
set_option maxRecDepth 100000 in
theorem x_answerC_0 (l : Launch) (D : va_G) (cs : Nat → ClassId) (B : Nat) (G : hq_G) (V : hp_V) (n : Nat) (hI : hq_I cs G V) (a : Nat) (kb : Nat) (qt : Nat) (qb : Nat) (mo : Nat) (q : Nat) (w : sp_W) (bk : sp_B) (ask : List Int) (k : Int32) (v : Int32) (te : Int32) (pe : Int32) (c_fs : Int32) (e_fd : Int32) (e_sz : Int32) (e_bk : Value) (e_an : Value) (e_mk : Value) (pz : Int32) (pf : Nat → Int32) (kk : Nat → Int32) (mm : Nat → Int32) (tt_ : Nat → Int32) (gf : Nat → Option Nat) (hc0 : V (a) = some (.inr (11, [.ref (kb), .ref (kb + 2), .ref (kb + 5), .ref (kb + 46), .ref (kb + 50), .ref (kb + 62), .ref (kb + 87), .int (c_fs), .ref (qt), .ref (qb)]))) (hc1 : V (kb + 50) = some (.inr (1, [.ref (kb + 51), .ref (kb + 52), .int (e_fd), .ref (kb + 53), .ref (kb + 55), .ref (kb + 57), e_bk, e_an, e_mk, .int (e_sz), .ref (kb + 59), .ref (kb + 60), .ref (kb + 61)]))) (hc2 : V (kb) = some (.inr (9, [.ref (kb + 1), .int (pz)]))) (hc3 : V (kb + 1) = some (.inl (cs 0, 4000, .inl (pf)))) (hc4 : V (kb + 59) = some (.inl (cs 1, 2, .inl (kk)))) (hc5 : V (kb + 60) = some (.inl (cs 1, 2, .inl (mm)))) (hc6 : V (kb + 61) = some (.inl (cs 1, 2, .inl (tt_)))) (hc7 : V (kb + 7) = some (.inl (cs 4, 4, .inr (.inr (.inr (.inr (gf))))))) (hT : hk_Ty G a kb mo q) (hT2 : hk_T2 G kb q) (hT3 : hk_T3 G kb) (hak : a + 1 = kb) (hqs : qt = kb + 88) (hBx : hx_BK cs V qt w bk) (hBS : hx_BS cs V qt) (hgd : sp_good w bk) (hgd2 : sp_good2 bk) (hg8 : sp_g8 w bk) (hask : sp_rp pz pf ask) (hpz : 0 ≤ pz.toInt ∧ pz.toInt ≤ 4000) (hgf : ∀ j, j < 4 → gf j = some (kb + 6 + 2 + 4 * j)) (hes : 0 ≤ e_sz.toInt ∧ e_sz.toInt ≤ 2) (hef : 0 ≤ e_fd.toInt ∧ e_fd.toInt ≤ 1) (hn39 : ¬ sp_nfv bk 3 v.toInt te.toInt pe.toInt = -1) : hp_M l yX11_answer cX11_answer 7 (some .int) ({ frames := 8, cells := 0, slots := 0, locals := 198 }) D cs B V n [.ref (a), .int (k), .int (v), .int (te), .int (pe)] (hp_QI D cs B (fun r V' n' => n = n' ∧ hq_P cs G (fun _ => true) V V' ∧ (∀ x, x ≠ kb → x ≠ kb + 5 → x ≠ kb + 44 → x ≠ kb + 45 → x ≠ kb + 50 → x ≠ kb + 51 → x ≠ kb + 52 → x ≠ kb + 53 → x ≠ kb + 54 → x ≠ kb + 55 → x ≠ kb + 56 → x ≠ kb + 57 → x ≠ kb + 58 → x ≠ kb + 59 → x ≠ kb + 60 → x ≠ kb + 61 → (x < kb + 6 ∨ kb + 6 + 18 ≤ x) → (∃ t, G x = some t ∧ (hq_grp t).1 ≠ 0 ∧ (hq_grp t).1 ≠ 5 ∧ (hq_grp t).1 ≠ 6 ∧ (hq_grp t).1 ≠ 7) → V' x = V x) ∧ (∃ e_fd1 : Int32, ∃ e_sz1 : Int32, ∃ e_bk1 : Value, ∃ e_an1 : Value, ∃ e_mk1 : Value, ∃ kk1 : Nat → Int32, ∃ mm1 : Nat → Int32, ∃ tt1 : Nat → Int32, V' (a) = some (.inr (11, [.ref (kb), .ref (kb + 2), .ref (kb + 5), .ref (kb + 46), .ref (kb + 50), .ref (kb + 62), .ref (kb + 87), .int (c_fs), .ref (qt), .ref (qb)])) ∧ V' (kb) = some (.inr (9, [.ref (kb + 1), .int (0)])) ∧ V' (kb + 50) = some (.inr (1, [.ref (kb + 51), .ref (kb + 52), .int (e_fd1), .ref (kb + 53), .ref (kb + 55), .ref (kb + 57), e_bk1, e_an1, e_mk1, .int (e_sz1), .ref (kb + 59), .ref (kb + 60), .ref (kb + 61)])) ∧ V' (kb + 59) = some (.inl (cs 1, 2, .inl (kk1))) ∧ V' (kb + 60) = some (.inl (cs 1, 2, .inl (mm1))) ∧ V' (kb + 61) = some (.inl (cs 1, 2, .inl (tt1))) ∧ V' (kb + 7) = some (.inl (cs 4, 4, .inr (.inr (.inr (.inr (gf)))))) ∧ ((sp_Z w bk ask k.toInt v.toInt te.toInt pe.toInt ∧ sp_hl e_sz1 kk1 mm1 tt1 (sp_TL w bk ask v.toInt te.toInt pe.toInt)) ∨ (¬ sp_Z w bk ask k.toInt v.toInt te.toInt pe.toInt ∧ e_sz1 = e_sz ∧ kk1 = kk ∧ mm1 = mm ∧ tt1 = tt_)) ∧ ((0 ≤ e_fd1.toInt ∧ e_fd1.toInt ≤ 1) ∧ (0 ≤ e_sz1.toInt ∧ e_sz1.toInt ≤ 2))))) 0 0 := by
  refine hp_walk (R0 := RX11) (by decide) rfl ?_ (Nat.le_of_ble_eq_true rfl)
  intro p e s m below meth c ls hx hb hr hts hown hlocks hin hml hZ hl
  have hP : hq_P cs G (fun _ => true) V V := hq_P.rf hI
  have hl : lv_has ls 7 [(0, .ref (a)), (1, .int (k)), (2, .int (v)), (3, .int (te)), (4, .int (pe))] := hl
  have hb_k := hq_rng k
  have hb_v := hq_rng v
  have hb_te := hq_rng te
  have hb_pe := hq_rng pe
  have hb_c_fs := hq_rng c_fs
  have hb_e_fd := hq_rng e_fd
  have hb_e_sz := hq_rng e_sz
  have hb_pz := hq_rng pz
  obtain ⟨ty0, ty1, ty2, ty3, ty4, ty5, ty6, ty7, ty8, ty9, ty10, ty11, ty12, ty13, ty14, ty15, ty16, ty17, ty18, ty19, ty20, hR⟩ := id hT
  obtain ⟨t2a, t2b, t2c, t2d⟩ := id hT2
  have hyqt : G qt = some (6, 0, 0, 0) := by rw [hqs]; exact ty18
  have hyb : hk_BTy G qt 0 := by rw [hqs]; exact t2b
  obtain ⟨hyb1, hyb14, hyb75, hyb76, hBT⟩ := hyb
  obtain ⟨hy6, hy7, hy24, hy34, hy44, hy45, hy54, hy56, hy58, hFT⟩ := id hT3
  obtain ⟨⟨bc, bv, bl, hbk1, hbc, hbv, hbl⟩, -, hNV, ⟨vf, hvf, hvl, hVC⟩, hLL⟩ := id hBx
  obtain ⟨⟨g1, hg1, hr1⟩, ⟨g2, hg2, hr2⟩, ⟨g3, hg3, hr3⟩⟩ := id hBS
  have hb_bc := hq_rng bc
  have hb_bv := hq_rng bv
  have hb_bl := hq_rng bl
  have hlv9 := hNV.1
  have hll9 := hLL.1
  have ha1 := hask.1
  refine lv_bipush (v := -2) hx hb dX11_answer_0 (by decide) ?_
  refine lv_istore (lv' := [(5, .int (-2)), (0, .ref (a)), (1, .int (k)), (2, .int (v)), (3, .int (te)), (4, .int (pe))]) hx hb dX11_answer_2 hl (by decide) rfl (fun ls hl => ?_)
  refine lv_iload_n hx hb dX11_answer_4 rfl (lv_at hl 2 rfl) ?_
  refine hp_calli (hp_runS (As := [.int (k)]) (rest := []) hx hb hml hown hts (x_isLn l D cs B G V n hP.1 (k)    ) hZ cv_X11_218 rfl rfl ⟨Nat.le_of_ble_eq_true rfl, Nat.le_of_ble_eq_true rfl⟩ rfl hl.1 rfl (Nat.le_of_ble_eq_true rfl) dX11_answer_5 ⟨(Nat.le_of_ble_eq_true rfl), (Nat.le_of_ble_eq_true rfl)⟩) hZ (fun r4 V1 n2 _ _ hw3 hZ => ?_)
  obtain ⟨rfl, rfl, hp7⟩ := hw3
  have b8 := hq_rng r4
  refine lv_if_eq (tgt := 176) hx hb dX11_answer_8 (by decide) (fun c9 => ?_) (fun c9 => ?_)
  · have c9 : (r4).toInt = (0 : Int) := hq_eqi.mp c9
    refine lv_aload_n hx hb dX11_answer_176 rfl (lv_at hl 1 rfl) ?_
    refine hp_get (v := .ref (kb)) hx hb hts hown hZ hc0 fl_X11_14 rfl dX11_answer_177 ?_
    refine hp_callv (hp_runV (As := []) (rest := []) hx hb hml hown hts (x_clear l D cs B G V n hP.1 (kb) (4000) (pz) ty1 ty2 hc2  (by decide)) hZ hc2 cv_X11_81 rfl rfl ⟨Nat.le_of_ble_eq_true rfl, Nat.le_of_ble_eq_true rfl⟩ rfl hl.1 rfl (Nat.le_of_ble_eq_true rfl) dX11_answer_180 ⟨(Nat.le_of_ble_eq_true rfl), (Nat.le_of_ble_eq_true rfl)⟩) hZ (fun V10 n11 _ _ hw12 hZ => ?_)
    obtain ⟨rfl, hq14, fr15, ho16⟩ := hw12
    have hP := hP.trans hq14 (fun _ h => Bool.noConfusion h)
    refine lv_iload hx hb dX11_answer_183 (lv_at hl 0 rfl) ?_
    have hl17 : (-2 : Int32).toInt = -2 := by decide
    have fx18 : V10 (kb + 50) = some (.inr (1, [.ref (kb + 51), .ref (kb + 52), .int (e_fd), .ref (kb + 53), .ref (kb + 55), .ref (kb + 57), e_bk, e_an, e_mk, .int (e_sz), .ref (kb + 59), .ref (kb + 60), .ref (kb + 61)])) := (fr15 (kb + 50) (hq_tne ty7 ty1 (by simp))).trans (hc1)
    have fx19 : V10 (kb + 59) = some (.inl (cs 1, 2, .inl (kk))) := (fr15 (kb + 59) (hq_tne ty13 ty1 (by simp))).trans (hc4)
    have fx20 : V10 (kb + 60) = some (.inl (cs 1, 2, .inl (mm))) := (fr15 (kb + 60) (hq_tne ty14 ty1 (by simp))).trans (hc5)
    have fx21 : V10 (kb + 61) = some (.inl (cs 1, 2, .inl (tt_))) := (fr15 (kb + 61) (hq_tne ty15 ty1 (by simp))).trans (hc6)
    have fx22 : V10 (a) = some (.inr (11, [.ref (kb), .ref (kb + 2), .ref (kb + 5), .ref (kb + 46), .ref (kb + 50), .ref (kb + 62), .ref (kb + 87), .int (c_fs), .ref (qt), .ref (qb)])) := (fr15 (a) (hq_tne ty0 ty1 (by simp))).trans (hc0)
    have fx23 : V10 (kb + 7) = some (.inl (cs 4, 4, .inr (.inr (.inr (.inr (gf)))))) := (fr15 (kb + 7) (hq_tne hy7 ty1 (by simp))).trans (hc7)
    exact hp_iret hx hb hr hlocks hZ ⟨rfl, hP, (fun x8 hne0 hne1 hne2 hne3 hne4 hne5 hne6 hne7 hne8 hne9 hne10 hne11 hne12 hne13 hne14 hne15 hne16 hne17 => fr15 x8 hne0), e_fd, e_sz, e_bk, e_an, e_mk, kk, mm, tt_, fx22, ho16, fx18, fx19, fx20, fx21, fx23, Or.inr ⟨(fun g9 => by have h9 := g9.1; unfold sp_pl at h9; omega), rfl, rfl, rfl, rfl⟩, by omega⟩ dX11_answer_185
  · have c9 : ¬ (r4).toInt = (0 : Int) := fun h9 => c9 (hq_eqi.mpr h9)
    have hlr9 : 0 ≤ k.toInt ∧ k.toInt < 8 := by omega
    refine lv_aload_n hx hb dX11_answer_11 rfl (lv_at hl 1 rfl) ?_
    refine lv_iload_n hx hb dX11_answer_12 rfl (lv_at hl 3 rfl) ?_
    refine lv_iload_n hx hb dX11_answer_13 rfl (lv_at hl 4 rfl) ?_
    refine lv_iload hx hb dX11_answer_14 (lv_at hl 5 rfl) ?_
    refine hp_calli (hp_runV (As := [.int (v), .int (te), .int (pe)]) (rest := []) hx hb hml hown hts (x_isPl l D cs B G V n hP.1 (a) (kb) (qt) (qb) (v) (te) (pe) (c_fs) (bc) (bv) (bl)  hc0 hbk1  ) hZ hc0 cv_X11_141 rfl rfl ⟨Nat.le_of_ble_eq_true rfl, Nat.le_of_ble_eq_true rfl⟩ rfl hl.1 rfl (Nat.le_of_ble_eq_true rfl) dX11_answer_16 ⟨(Nat.le_of_ble_eq_true rfl), (Nat.le_of_ble_eq_true rfl)⟩) hZ (fun r27 V24 n25 _ _ hw26 hZ => ?_)
    obtain ⟨rfl, rfl, hp30⟩ := hw26
    have b31 := hq_rng r27
    refine lv_if_eq (tgt := 176) hx hb dX11_answer_19 (by decide) (fun c32 => ?_) (fun c32 => ?_)
    · have c32 : (r27).toInt = (0 : Int) := hq_eqi.mp c32
      refine lv_aload_n hx hb dX11_answer_176 rfl (lv_at hl 1 rfl) ?_
      refine hp_get (v := .ref (kb)) hx hb hts hown hZ hc0 fl_X11_14 rfl dX11_answer_177 ?_
      refine hp_callv (hp_runV (As := []) (rest := []) hx hb hml hown hts (x_clear l D cs B G V n hP.1 (kb) (4000) (pz) ty1 ty2 hc2  (by decide)) hZ hc2 cv_X11_81 rfl rfl ⟨Nat.le_of_ble_eq_true rfl, Nat.le_of_ble_eq_true rfl⟩ rfl hl.1 rfl (Nat.le_of_ble_eq_true rfl) dX11_answer_180 ⟨(Nat.le_of_ble_eq_true rfl), (Nat.le_of_ble_eq_true rfl)⟩) hZ (fun V33 n34 _ _ hw35 hZ => ?_)
      obtain ⟨rfl, hq37, fr38, ho39⟩ := hw35
      have hP := hP.trans hq37 (fun _ h => Bool.noConfusion h)
      refine lv_iload hx hb dX11_answer_183 (lv_at hl 0 rfl) ?_
      have hl40 : (-2 : Int32).toInt = -2 := by decide
      have fx41 : V33 (kb + 50) = some (.inr (1, [.ref (kb + 51), .ref (kb + 52), .int (e_fd), .ref (kb + 53), .ref (kb + 55), .ref (kb + 57), e_bk, e_an, e_mk, .int (e_sz), .ref (kb + 59), .ref (kb + 60), .ref (kb + 61)])) := (fr38 (kb + 50) (hq_tne ty7 ty1 (by simp))).trans (hc1)
      have fx42 : V33 (kb + 59) = some (.inl (cs 1, 2, .inl (kk))) := (fr38 (kb + 59) (hq_tne ty13 ty1 (by simp))).trans (hc4)
      have fx43 : V33 (kb + 60) = some (.inl (cs 1, 2, .inl (mm))) := (fr38 (kb + 60) (hq_tne ty14 ty1 (by simp))).trans (hc5)
      have fx44 : V33 (kb + 61) = some (.inl (cs 1, 2, .inl (tt_))) := (fr38 (kb + 61) (hq_tne ty15 ty1 (by simp))).trans (hc6)
      have fx45 : V33 (a) = some (.inr (11, [.ref (kb), .ref (kb + 2), .ref (kb + 5), .ref (kb + 46), .ref (kb + 50), .ref (kb + 62), .ref (kb + 87), .int (c_fs), .ref (qt), .ref (qb)])) := (fr38 (a) (hq_tne ty0 ty1 (by simp))).trans (hc0)
      have fx46 : V33 (kb + 7) = some (.inl (cs 4, 4, .inr (.inr (.inr (.inr (gf)))))) := (fr38 (kb + 7) (hq_tne hy7 ty1 (by simp))).trans (hc7)
      exact hp_iret hx hb hr hlocks hZ ⟨rfl, hP, (fun x8 hne0 hne1 hne2 hne3 hne4 hne5 hne6 hne7 hne8 hne9 hne10 hne11 hne12 hne13 hne14 hne15 hne16 hne17 => fr38 x8 hne0), e_fd, e_sz, e_bk, e_an, e_mk, kk, mm, tt_, fx45, ho39, fx41, fx42, fx43, fx44, fx46, Or.inr ⟨(fun g9 => by have h9 := g9.1; unfold sp_pl at h9; omega), rfl, rfl, rfl, rfl⟩, by omega⟩ dX11_answer_185
    · have c32 : ¬ (r27).toInt = (0 : Int) := fun h9 => c32 (hq_eqi.mpr h9)
      have hpl9 : 0 ≤ v.toInt ∧ v.toInt < bv.toInt ∧ 0 ≤ te.toInt ∧ te.toInt < 5 ∧ 0 ≤ pe.toInt ∧ pe.toInt < 6 := by omega
      have hvv : (v.toNatClampNeg : Int) = v.toInt := (hq_nn (by omega)).1.symm
      obtain ⟨t9, ht9⟩ : ∃ t, bk.2.1[v.toNatClampNeg]? = some t := ⟨_, List.getElem?_eq_getElem (by omega)⟩
      obtain ⟨c9, hc90⟩ : ∃ t, bk.2.2.1[v.toNatClampNeg]? = some t := ⟨_, List.getElem?_eq_getElem (by omega)⟩
      have hcd : sp_c9 bk v.toInt = c9 := sp_getD hc90
      have hnd : sp_nmv w bk v.toInt = (sp_nm w t9) := congrArg (sp_nm w) (sp_getD ht9)
      have hc9 := hVC _ _ hc90
      obtain ⟨tz, tf, htx1, htx2, htx3, htx4, htx5⟩ := hNV.2 _ _ ht9
      have hnm := sp_nm_rp htx3.1 htx4 htx5
      have hnm1 := hnm.1
      have hnl : (sp_nm w t9).length ≤ 12 := by omega
      have hn3 : ¬ (sp_nf 3 v.toInt c9 te.toInt pe.toInt bk.2.2.2 0) = -1 := by have h9 := hn39; unfold sp_nfv at h9; rw [hcd] at h9; exact h9
      refine lv_aload_n hx hb dX11_answer_22 rfl (lv_at hl 1 rfl) ?_
      refine hp_get (v := .ref (kb + 62)) hx hb hts hown hZ hc0 fl_X11_48 rfl dX11_answer_23 ?_
      refine lv_iload_n hx hb dX11_answer_26 rfl (lv_at hl 2 rfl) ?_
      obtain ⟨hN49, g48, eV47, hf50, _⟩ := hq_o4 hP.1 ty16
      obtain ⟨u51, hx52, hu53⟩ := hf50 (k : Int32).toNatClampNeg (hq_ix (by omega) (by omega))
      have hu53 : G u51 = some (9, 0, 0, 0) := hu53
      refine hp_aald (v := .ref (u51)) hx hb hZ 5 eV47 rfl (hq_in (by omega) (by omega)) (by rw [hx52]; rfl) dX11_answer_27 ?_
      refine lv_iload_n hx hb dX11_answer_28 rfl (lv_at hl 3 rfl) ?_
      refine lv_iload_n hx hb dX11_answer_29 rfl (lv_at hl 4 rfl) ?_
      refine lv_iload hx hb dX11_answer_30 (lv_at hl 5 rfl) ?_
      refine hp_calli (hp_runS (As := [.int (v), .int (te), .int (pe)]) (rest := [.ref (u51)]) hx hb hml hown hts (x_plOf l D cs B G V n hP.1 (v) (te) (pe)    ) hZ cv_X11_221 rfl rfl ⟨Nat.le_of_ble_eq_true rfl, Nat.le_of_ble_eq_true rfl⟩ rfl hl.1 rfl (Nat.le_of_ble_eq_true rfl) dX11_answer_32 ⟨(Nat.le_of_ble_eq_true rfl), (Nat.le_of_ble_eq_true rfl)⟩) hZ (fun r57 V54 n55 _ _ hw56 hZ => ?_)
      obtain ⟨rfl, rfl⟩ := hw56
      have b60 := hq_rng r57
      obtain ⟨u68, u69, eV67, hu70, hu71⟩ := hq_o9 hP.1 hu53
      refine hp_callv (hp_runV (As := [.int (r57)]) (rest := []) hx hb hml hown hts (t_X4_notePlace l D cs B G  V n hP.1  (u51) hu53 (r57) ) hZ eV67 cv_X11_225 rfl rfl ⟨Nat.le_of_ble_eq_true rfl, Nat.le_of_ble_eq_true rfl⟩ rfl hl.1 rfl (Nat.le_of_ble_eq_true rfl) dX11_answer_35 ⟨(Nat.le_of_ble_eq_true rfl), (Nat.le_of_ble_eq_true rfl)⟩) hZ (fun V61 n62 _ _ hw63 hZ => ?_)
      obtain ⟨rfl, hq65⟩ := hw63
      have hP := hP.trans hq65 (fun _ h => Bool.noConfusion h)
      refine lv_aload_n hx hb dX11_answer_38 rfl (lv_at hl 1 rfl) ?_
      have fx72 : V61 (a) = some (.inr (11, [.ref (kb), .ref (kb + 2), .ref (kb + 5), .ref (kb + 46), .ref (kb + 50), .ref (kb + 62), .ref (kb + 87), .int (c_fs), .ref (qt), .ref (qb)])) := (hq65.2 (a) _ ty0 rfl).trans (hc0)
      refine hp_get (v := .ref (kb + 5)) hx hb hts hown hZ fx72 fl_X11_28 rfl dX11_answer_39 ?_
      refine lv_aload_n hx hb dX11_answer_42 rfl (lv_at hl 1 rfl) ?_
      refine hp_get (v := .ref (qt)) hx hb hts hown hZ fx72 fl_X11_64 rfl dX11_answer_43 ?_
      refine lv_iload_n hx hb dX11_answer_46 rfl (lv_at hl 3 rfl) ?_
      refine lv_iload_n hx hb dX11_answer_47 rfl (lv_at hl 4 rfl) ?_
      refine lv_iload hx hb dX11_answer_48 (lv_at hl 5 rfl) ?_
      have pk73 := hBx.keep (fun x7 (hx7 : qt ≤ x7 ∧ x7 < qt + 377) => hT2.fr hq65 (fun g hg => by unfold hk_gr at hg; first | rfl | (simp; omega)) x7 (by unfold hk_In; omega))
      have pk74 := hBS.keep (hq65.2 (qt + 1) _ hyb1 rfl) (hq65.2 (qt + 14) _ hyb14 rfl) (hq65.2 (qt + 76) _ hyb76 rfl)
      have hJ9 := hq_J.of (pk73) (pk74) hgd
      obtain ⟨u82, u83, u84, u85, z86, eV81, hu87, hu88, hu89, hu90, h91, h92⟩ := hq_o11 hP.1 ty5
      refine hp_callv (hp_runV (As := [.ref (qt), .int (v), .int (te), .int (pe)]) (rest := []) hx hb hml hown hts (t_X6_makeAt l D cs B G  V61 n hP.1 _ (kb + 5) ty5 (qt) hyqt (v) (te) (pe) (by omega) (by omega) hJ9) hZ eV81 cv_X11_145 rfl rfl ⟨Nat.le_of_ble_eq_true rfl, Nat.le_of_ble_eq_true rfl⟩ rfl hl.1 rfl (Nat.le_of_ble_eq_true rfl) dX11_answer_50 ⟨(Nat.le_of_ble_eq_true rfl), (Nat.le_of_ble_eq_true rfl)⟩) hZ (fun V75 n76 _ _ hw77 hZ => ?_)
      obtain ⟨rfl, hq79⟩ := hw77
      have hP := hP.trans hq79 (fun _ h => Bool.noConfusion h)
      obtain ⟨z93, eV94, h95, h96⟩ := hx_oM hP.1 ty5
      obtain ⟨z97, eV98, h99, h100⟩ := hx_oL hP.1 hy6
      refine lv_aload_n hx hb dX11_answer_53 rfl (lv_at hl 1 rfl) ?_
      have fx101 : V75 (a) = some (.inr (11, [.ref (kb), .ref (kb + 2), .ref (kb + 5), .ref (kb + 46), .ref (kb + 50), .ref (kb + 62), .ref (kb + 87), .int (c_fs), .ref (qt), .ref (qb)])) := (hq79.2 (a) _ ty0 rfl).trans (fx72)
      refine hp_get (v := .ref (kb + 5)) hx hb hts hown hZ fx101 fl_X11_28 rfl dX11_answer_54 ?_
      refine hp_get (v := .ref (kb + 6)) hx hb hts hown hZ eV94 fl_X11_149 rfl dX11_answer_57 ?_
      refine lv_aload_n hx hb dX11_answer_60 rfl (lv_at hl 1 rfl) ?_
      refine hp_get (v := .ref (kb + 5)) hx hb hts hown hZ fx101 fl_X11_28 rfl dX11_answer_61 ?_
      refine hp_get (v := .ref (kb + 6)) hx hb hts hown hZ eV94 fl_X11_149 rfl dX11_answer_64 ?_
      refine lv_aload_n hx hb dX11_answer_67 rfl (lv_at hl 1 rfl) ?_
      refine hp_get (v := .ref (kb)) hx hb hts hown hZ fx101 fl_X11_14 rfl dX11_answer_68 ?_
      refine hp_calli (hp_runV (As := [.ref (kb)]) (rest := [.ref (kb + 6)]) hx hb hml hown hts (t_X3_find l D cs B G  V75 n hP.1 _ _ (kb + 6) hy6 (kb) ty1 ) hZ eV98 cv_X11_226 rfl rfl ⟨Nat.le_of_ble_eq_true rfl, Nat.le_of_ble_eq_true rfl⟩ rfl hl.1 rfl (Nat.le_of_ble_eq_true rfl) dX11_answer_71 ⟨(Nat.le_of_ble_eq_true rfl), (Nat.le_of_ble_eq_true rfl)⟩) hZ (fun r105 V102 n103 _ _ hw104 hZ => ?_)
      obtain ⟨rfl, hq106, hr107⟩ := hw104
      have hP := hP.trans hq106 (fun _ _ => rfl)
      have b108 := hq_rng r105
      have fx109 : V102 (kb + 6) = some (.inr (3, [.ref (kb + 7), .int (z97)])) := (hq106.2 (kb + 6) _ hy6 rfl).trans (eV98)
      rcases Classical.em (0 ≤ (r105).toInt ∧ (r105).toInt < (z97).toInt) with hfd | hfd
      · have hfd9 := hfd
        obtain ⟨it9, hit9⟩ : ∃ t, t = kb + 6 + 2 + 4 * (r105 : Int32).toNatClampNeg := ⟨_, rfl⟩
        have hzit9 := (hq_nn (z := r105) (by omega)).1
        have hyit9 := hFT it9 (r105 : Int32).toNatClampNeg (by omega) hit9
        have fx110 : V102 (kb + 7) = some (.inl (cs 4, 4, .inr (.inr (.inr (.inr (gf)))))) := (hq106.2 (kb + 7) _ hy7 rfl).trans ((hq79.2 (kb + 7) _ hy7 rfl).trans ((hq65.2 (kb + 7) _ hy7 rfl).trans (hc7)))
        refine hp_callq (hp_runV (As := [.int (r105)]) (rest := []) hx hb hml hown hts (x_getSome l D cs B G V102 n hP.1 (kb + 6) (it9) (r105) (z97) (gf)  fx109 fx110  hgf hit9 (by omega)) hZ fx109 cv_X11_230 rfl rfl ⟨Nat.le_of_ble_eq_true rfl, Nat.le_of_ble_eq_true rfl⟩ rfl hl.1 rfl (Nat.le_of_ble_eq_true rfl) dX11_answer_74 ⟨(Nat.le_of_ble_eq_true rfl), (Nat.le_of_ble_eq_true rfl)⟩) hZ (fun r114 V111 n112 _ _ hw113 hZ => ?_)
        obtain ⟨rfl, rfl, hp117⟩ := hw113
        subst hp117
        refine W.eq (g2 := F0 m 77 ls [.ref (it9)]) rfl ?_
        refine lv_astore (lv' := [(6, .ref (it9)), (5, .int (-2)), (0, .ref (a)), (1, .int (k)), (2, .int (v)), (3, .int (te)), (4, .int (pe))]) hx hb dX11_answer_77 hl (by decide) rfl (fun ls hl => ?_)
        refine lv_aload hx hb dX11_answer_79 (lv_at hl 0 rfl) ?_
        refine lv_ifnull hx hb dX11_answer_81 ?_
        refine lv_aload_n hx hb dX11_answer_84 rfl (lv_at hl 2 rfl) ?_
        have fx118 : V102 (a) = some (.inr (11, [.ref (kb), .ref (kb + 2), .ref (kb + 5), .ref (kb + 46), .ref (kb + 50), .ref (kb + 62), .ref (kb + 87), .int (c_fs), .ref (qt), .ref (qb)])) := (hq106.2 (a) _ ty0 rfl).trans (fx101)
        refine hp_get (v := .ref (kb + 62)) hx hb hts hown hZ fx118 fl_X11_48 rfl dX11_answer_85 ?_
        refine lv_iload_n hx hb dX11_answer_88 rfl (lv_at hl 3 rfl) ?_
        have fx119 : V102 (kb + 62) = some (.inl (cs 5, 8, .inr (.inr (.inr (.inr (g48)))))) := (hq106.2 (kb + 62) _ ty16 rfl).trans ((hq79.2 (kb + 62) _ ty16 rfl).trans ((hq65.2 (kb + 62) _ ty16 rfl).trans (eV47)))
        obtain ⟨u120, hx121, hu122⟩ := hf50 (k : Int32).toNatClampNeg (hq_ix (by omega) (by omega))
        have hu122 : G u120 = some (9, 0, 0, 0) := hu122
        refine hp_aald (v := .ref (u120)) hx hb hZ 5 fx119 rfl (hq_in (by omega) (by omega)) (by rw [hx121]; rfl) dX11_answer_89 ?_
        refine lv_aload hx hb dX11_answer_90 (lv_at hl 0 rfl) ?_
        obtain ⟨u130, u131, z132, eV129, hu133, hu134, h135, h136⟩ := hq_o7 hP.1 hyit9.1
        refine hp_calll (hp_runV (As := []) (rest := [.ref (u120)]) hx hb hml hown hts (t_X2_lineBits l D cs B G  V102 n hP.1  (it9) hyit9.1 ) hZ eV129 cv_X11_234 rfl rfl ⟨Nat.le_of_ble_eq_true rfl, Nat.le_of_ble_eq_true rfl⟩ rfl hl.1 rfl (Nat.le_of_ble_eq_true rfl) dX11_answer_92 ⟨(Nat.le_of_ble_eq_true rfl), (Nat.le_of_ble_eq_true rfl)⟩) hZ (fun r126 V123 n124 _ _ hw125 hZ => ?_)
        obtain ⟨rfl, hq127, hr128⟩ := hw125
        have hP := hP.trans hq127 (fun _ _ => rfl)
        obtain ⟨u144, u145, eV143, hu146, hu147⟩ := hq_o9 hP.1 hu122
        refine hp_callv (hp_runV (As := [.long (r126)]) (rest := []) hx hb hml hown hts (t_X4_ease l D cs B G  V123 n hP.1  (u120) hu122 (r126) ) hZ eV143 cv_X11_237 rfl rfl ⟨Nat.le_of_ble_eq_true rfl, Nat.le_of_ble_eq_true rfl⟩ rfl hl.1 rfl (Nat.le_of_ble_eq_true rfl) dX11_answer_95 ⟨(Nat.le_of_ble_eq_true rfl), (Nat.le_of_ble_eq_true rfl)⟩) hZ (fun V137 n138 _ _ hw139 hZ => ?_)
        obtain ⟨rfl, hq141⟩ := hw139
        have hP := hP.trans hq141 (fun _ h => Bool.noConfusion h)
        refine lv_iconst (v := 0) hx hb dX11_answer_98 (by decide) ?_
        refine lv_istore (lv' := [(5, .int (0)), (6, .ref (it9)), (0, .ref (a)), (1, .int (k)), (2, .int (v)), (3, .int (te)), (4, .int (pe))]) hx hb dX11_answer_99 hl (by decide) rfl (fun ls hl => ?_)
        refine lv_goto (tgt := 176) hx hb dX11_answer_101 (by decide) ?_
        refine lv_aload_n hx hb dX11_answer_176 rfl (lv_at hl 2 rfl) ?_
        have fx148 : V137 (a) = some (.inr (11, [.ref (kb), .ref (kb + 2), .ref (kb + 5), .ref (kb + 46), .ref (kb + 50), .ref (kb + 62), .ref (kb + 87), .int (c_fs), .ref (qt), .ref (qb)])) := (hq141.2 (a) _ ty0 rfl).trans ((hq127.2 (a) _ ty0 rfl).trans (fx118))
        refine hp_get (v := .ref (kb)) hx hb hts hown hZ fx148 fl_X11_14 rfl dX11_answer_177 ?_
        have fx149 : V137 (kb) = some (.inr (9, [.ref (kb + 1), .int (pz)])) := (hq141.2 (kb) _ ty1 rfl).trans ((hq127.2 (kb) _ ty1 rfl).trans ((hq106.2 (kb) _ ty1 rfl).trans ((hq79.2 (kb) _ ty1 rfl).trans ((hq65.2 (kb) _ ty1 rfl).trans (hc2)))))
        refine hp_callv (hp_runV (As := []) (rest := []) hx hb hml hown hts (x_clear l D cs B G V137 n hP.1 (kb) (4000) (pz) ty1 ty2 fx149  (by decide)) hZ fx149 cv_X11_81 rfl rfl ⟨Nat.le_of_ble_eq_true rfl, Nat.le_of_ble_eq_true rfl⟩ rfl hl.1 rfl (Nat.le_of_ble_eq_true rfl) dX11_answer_180 ⟨(Nat.le_of_ble_eq_true rfl), (Nat.le_of_ble_eq_true rfl)⟩) hZ (fun V150 n151 _ _ hw152 hZ => ?_)
        obtain ⟨rfl, hq154, fr155, ho156⟩ := hw152
        have hP := hP.trans hq154 (fun _ h => Bool.noConfusion h)
        refine lv_iload hx hb dX11_answer_183 (lv_at hl 0 rfl) ?_
        have hl157 : (0 : Int32).toInt = 0 := by decide
        have fx158 : V150 (kb + 50) = some (.inr (1, [.ref (kb + 51), .ref (kb + 52), .int (e_fd), .ref (kb + 53), .ref (kb + 55), .ref (kb + 57), e_bk, e_an, e_mk, .int (e_sz), .ref (kb + 59), .ref (kb + 60), .ref (kb + 61)])) := (fr155 (kb + 50) (hq_tne ty7 ty1 (by simp))).trans ((hq141.2 (kb + 50) _ ty7 rfl).trans ((hq127.2 (kb + 50) _ ty7 rfl).trans ((hq106.2 (kb + 50) _ ty7 rfl).trans ((hq79.2 (kb + 50) _ ty7 rfl).trans ((hq65.2 (kb + 50) _ ty7 rfl).trans (hc1))))))
        have fx159 : V150 (kb + 59) = some (.inl (cs 1, 2, .inl (kk))) := (fr155 (kb + 59) (hq_tne ty13 ty1 (by simp))).trans ((hq141.2 (kb + 59) _ ty13 rfl).trans ((hq127.2 (kb + 59) _ ty13 rfl).trans ((hq106.2 (kb + 59) _ ty13 rfl).trans ((hq79.2 (kb + 59) _ ty13 rfl).trans ((hq65.2 (kb + 59) _ ty13 rfl).trans (hc4))))))
        have fx160 : V150 (kb + 60) = some (.inl (cs 1, 2, .inl (mm))) := (fr155 (kb + 60) (hq_tne ty14 ty1 (by simp))).trans ((hq141.2 (kb + 60) _ ty14 rfl).trans ((hq127.2 (kb + 60) _ ty14 rfl).trans ((hq106.2 (kb + 60) _ ty14 rfl).trans ((hq79.2 (kb + 60) _ ty14 rfl).trans ((hq65.2 (kb + 60) _ ty14 rfl).trans (hc5))))))
        have fx161 : V150 (kb + 61) = some (.inl (cs 1, 2, .inl (tt_))) := (fr155 (kb + 61) (hq_tne ty15 ty1 (by simp))).trans ((hq141.2 (kb + 61) _ ty15 rfl).trans ((hq127.2 (kb + 61) _ ty15 rfl).trans ((hq106.2 (kb + 61) _ ty15 rfl).trans ((hq79.2 (kb + 61) _ ty15 rfl).trans ((hq65.2 (kb + 61) _ ty15 rfl).trans (hc6))))))
        have fx162 : V150 (a) = some (.inr (11, [.ref (kb), .ref (kb + 2), .ref (kb + 5), .ref (kb + 46), .ref (kb + 50), .ref (kb + 62), .ref (kb + 87), .int (c_fs), .ref (qt), .ref (qb)])) := (fr155 (a) (hq_tne ty0 ty1 (by simp))).trans (fx148)
        have fx163 : V150 (kb + 7) = some (.inl (cs 4, 4, .inr (.inr (.inr (.inr (gf)))))) := (fr155 (kb + 7) (hq_tne hy7 ty1 (by simp))).trans ((hq141.2 (kb + 7) _ hy7 rfl).trans ((hq127.2 (kb + 7) _ hy7 rfl).trans (fx110)))
        exact hp_iret hx hb hr hlocks hZ ⟨rfl, hP, (fun x8 hne0 hne1 hne2 hne3 hne4 hne5 hne6 hne7 hne8 hne9 hne10 hne11 hne12 hne13 hne14 hne15 hne16 hne17 => (fr155 x8 hne0).trans ((hx_fg (x := x8) hq141 (by obtain ⟨t9, h91, h92⟩ := hne17; exact ⟨t9, h91, by simp_all⟩)).trans ((hx_fg (x := x8) hq127 (by obtain ⟨t9, h91, h92⟩ := hne17; exact ⟨t9, h91, by simp_all⟩)).trans ((hx_fg (x := x8) hq106 (by obtain ⟨t9, h91, h92⟩ := hne17; exact ⟨t9, h91, by simp_all⟩)).trans ((hx_fg (x := x8) hq79 (by obtain ⟨t9, h91, h92⟩ := hne17; exact ⟨t9, h91, by simp_all⟩)).trans (hx_fg (x := x8) hq65 (by obtain ⟨t9, h91, h92⟩ := hne17; exact ⟨t9, h91, by simp_all⟩))))))), e_fd, e_sz, e_bk, e_an, e_mk, kk, mm, tt_, fx162, ho156, fx158, fx159, fx160, fx161, fx163, Or.inr ⟨(fun g9 => hn39 g9.2.1), rfl, rfl, rfl, rfl⟩, by omega⟩ dX11_answer_185
      · have hfd9 := hfd
        refine hp_callq (hp_runV (As := [.int (r105)]) (rest := []) hx hb hml hown hts (x_getNone l D cs B G V102 n hP.1 (kb + 6) (r105) (z97)  fx109  (by omega)) hZ fx109 cv_X11_230 rfl rfl ⟨Nat.le_of_ble_eq_true rfl, Nat.le_of_ble_eq_true rfl⟩ rfl hl.1 rfl (Nat.le_of_ble_eq_true rfl) dX11_answer_74 ⟨(Nat.le_of_ble_eq_true rfl), (Nat.le_of_ble_eq_true rfl)⟩) hZ (fun r167 V164 n165 _ _ hw166 hZ => ?_)
        obtain ⟨rfl, rfl, hp170⟩ := hw166
        subst hp170
        refine W.eq (g2 := F0 m 77 ls [.null]) rfl ?_
        refine lv_astoreN (lv' := [(6, .null), (5, .int (-2)), (0, .ref (a)), (1, .int (k)), (2, .int (v)), (3, .int (te)), (4, .int (pe))]) hx hb dX11_answer_77 hl (by decide) rfl (fun ls hl => ?_)
        refine lv_aloadN hx hb dX11_answer_79 (lv_at hl 0 rfl) ?_
        refine lv_ifnullN (tgt := 104) hx hb dX11_answer_81 (by decide) ?_
        refine lv_aload_n hx hb dX11_answer_104 rfl (lv_at hl 2 rfl) ?_
        refine lv_iload_n hx hb dX11_answer_105 rfl (lv_at hl 4 rfl) ?_
        refine lv_iload_n hx hb dX11_answer_106 rfl (lv_at hl 5 rfl) ?_
        refine lv_iload hx hb dX11_answer_107 (lv_at hl 6 rfl) ?_
        have fx171 : V102 (a) = some (.inr (11, [.ref (kb), .ref (kb + 2), .ref (kb + 5), .ref (kb + 46), .ref (kb + 50), .ref (kb + 62), .ref (kb + 87), .int (c_fs), .ref (qt), .ref (qb)])) := (hq106.2 (a) _ ty0 rfl).trans (fx101)
        have fx172 : V102 (qt) = some (.inr (0, [.ref (qt + 1), .int (bc), .ref (qt + 14), .ref (qt + 75), .int (bv), .ref (qt + 76), .int (bl)])) := (hq106.2 (qt) _ hyqt rfl).trans ((hq79.2 (qt) _ hyqt rfl).trans ((hq65.2 (qt) _ hyqt rfl).trans (hbk1)))
        have fx173 : V102 (qt + 75) = some (.inl (cs 1, 30, .inl (vf))) := (hq106.2 (qt + 75) _ hyb75 rfl).trans ((hq79.2 (qt + 75) _ hyb75 rfl).trans ((hq65.2 (qt + 75) _ hyb75 rfl).trans (hvf)))
        have fx174 : V102 (kb + 5) = some (.inr (6, [.ref (kb + 6), .int (z93), .ref (kb + 24), .ref (kb + 34), .ref (kb + 44)])) := (hq106.2 (kb + 5) _ ty5 rfl).trans (eV94)
        have pk175 := hLL.keep (fun x7 (hx7 : qt + 77 ≤ x7 ∧ x7 < qt + 77 + 5 * bk.2.2.2.length) => (hT2.fr hq106 (fun g hg => by unfold hk_gr at hg; first | rfl | (simp; omega)) x7 (by unfold hk_In; omega)).trans ((hT2.fr hq79 (fun g hg => by unfold hk_gr at hg; first | rfl | (simp; omega)) x7 (by unfold hk_In; omega)).trans (hT2.fr hq65 (fun g hg => by unfold hk_gr at hg; first | rfl | (simp; omega)) x7 (by unfold hk_In; omega))))
        have pk176 := pk74.keep ((hq106.2 (qt + 1) _ hyb1 rfl).trans (hq79.2 (qt + 1) _ hyb1 rfl)) ((hq106.2 (qt + 14) _ hyb14 rfl).trans (hq79.2 (qt + 14) _ hyb14 rfl)) ((hq106.2 (qt + 76) _ hyb76 rfl).trans (hq79.2 (qt + 76) _ hyb76 rfl))
        refine hp_calli (hp_runV (As := [.int (v), .int (te), .int (pe)]) (rest := []) hx hb hml hown hts (x_isSlip l D cs B G V102 n hP.1 (a) (kb) (qt) (qb) (w) (bk) (c9) (v) (te) (pe) (c_fs) (bc) (bv) (bl) (z93) (z97) (vf)  fx171 fx172 fx173 fx174 fx109 pk175 pk176 hbl (by omega) hc9) hZ fx171 cv_X11_241 rfl rfl ⟨Nat.le_of_ble_eq_true rfl, Nat.le_of_ble_eq_true rfl⟩ rfl hl.1 rfl (Nat.le_of_ble_eq_true rfl) dX11_answer_109 ⟨(Nat.le_of_ble_eq_true rfl), (Nat.le_of_ble_eq_true rfl)⟩) hZ (fun r180 V177 n178 _ _ hw179 hZ => ?_)
        obtain ⟨rfl, rfl, hp183⟩ := hw179
        have b184 := hq_rng r180
        have hsr : (r180).toInt = 0 := by rcases hp183 with g9 | g9; (· exact absurd g9.2.2 hn3); (· exact g9.1)
        have hl185 : (0 : Int32).toInt = 0 := by decide
        refine lv_if_eq (tgt := 172) hx hb dX11_answer_112 (by decide) (fun c186 => ?_) (fun c186 => absurd ((Int32.toInt_inj.mp (by omega) : r180 = 0)) c186)
        refine lv_bipush (v := -5) hx hb dX11_answer_172 (by decide) ?_
        refine lv_istore (lv' := [(5, .int (-5)), (6, .null), (0, .ref (a)), (1, .int (k)), (2, .int (v)), (3, .int (te)), (4, .int (pe))]) hx hb dX11_answer_174 hl (by decide) rfl (fun ls hl => ?_)
        refine lv_aload_n hx hb dX11_answer_176 rfl (lv_at hl 2 rfl) ?_
        refine hp_get (v := .ref (kb)) hx hb hts hown hZ fx171 fl_X11_14 rfl dX11_answer_177 ?_
        have fx187 : V102 (kb) = some (.inr (9, [.ref (kb + 1), .int (pz)])) := (hq106.2 (kb) _ ty1 rfl).trans ((hq79.2 (kb) _ ty1 rfl).trans ((hq65.2 (kb) _ ty1 rfl).trans (hc2)))
        refine hp_callv (hp_runV (As := []) (rest := []) hx hb hml hown hts (x_clear l D cs B G V102 n hP.1 (kb) (4000) (pz) ty1 ty2 fx187  (by decide)) hZ fx187 cv_X11_81 rfl rfl ⟨Nat.le_of_ble_eq_true rfl, Nat.le_of_ble_eq_true rfl⟩ rfl hl.1 rfl (Nat.le_of_ble_eq_true rfl) dX11_answer_180 ⟨(Nat.le_of_ble_eq_true rfl), (Nat.le_of_ble_eq_true rfl)⟩) hZ (fun V188 n189 _ _ hw190 hZ => ?_)
        obtain ⟨rfl, hq192, fr193, ho194⟩ := hw190
        have hP := hP.trans hq192 (fun _ h => Bool.noConfusion h)
        refine lv_iload hx hb dX11_answer_183 (lv_at hl 0 rfl) ?_
        have hl195 : (-5 : Int32).toInt = -5 := by decide
        have fx196 : V188 (kb + 50) = some (.inr (1, [.ref (kb + 51), .ref (kb + 52), .int (e_fd), .ref (kb + 53), .ref (kb + 55), .ref (kb + 57), e_bk, e_an, e_mk, .int (e_sz), .ref (kb + 59), .ref (kb + 60), .ref (kb + 61)])) := (fr193 (kb + 50) (hq_tne ty7 ty1 (by simp))).trans ((hq106.2 (kb + 50) _ ty7 rfl).trans ((hq79.2 (kb + 50) _ ty7 rfl).trans ((hq65.2 (kb + 50) _ ty7 rfl).trans (hc1))))
        have fx197 : V188 (kb + 59) = some (.inl (cs 1, 2, .inl (kk))) := (fr193 (kb + 59) (hq_tne ty13 ty1 (by simp))).trans ((hq106.2 (kb + 59) _ ty13 rfl).trans ((hq79.2 (kb + 59) _ ty13 rfl).trans ((hq65.2 (kb + 59) _ ty13 rfl).trans (hc4))))
        have fx198 : V188 (kb + 60) = some (.inl (cs 1, 2, .inl (mm))) := (fr193 (kb + 60) (hq_tne ty14 ty1 (by simp))).trans ((hq106.2 (kb + 60) _ ty14 rfl).trans ((hq79.2 (kb + 60) _ ty14 rfl).trans ((hq65.2 (kb + 60) _ ty14 rfl).trans (hc5))))
        have fx199 : V188 (kb + 61) = some (.inl (cs 1, 2, .inl (tt_))) := (fr193 (kb + 61) (hq_tne ty15 ty1 (by simp))).trans ((hq106.2 (kb + 61) _ ty15 rfl).trans ((hq79.2 (kb + 61) _ ty15 rfl).trans ((hq65.2 (kb + 61) _ ty15 rfl).trans (hc6))))
        have fx200 : V188 (a) = some (.inr (11, [.ref (kb), .ref (kb + 2), .ref (kb + 5), .ref (kb + 46), .ref (kb + 50), .ref (kb + 62), .ref (kb + 87), .int (c_fs), .ref (qt), .ref (qb)])) := (fr193 (a) (hq_tne ty0 ty1 (by simp))).trans (fx171)
        have fx201 : V188 (kb + 7) = some (.inl (cs 4, 4, .inr (.inr (.inr (.inr (gf)))))) := (fr193 (kb + 7) (hq_tne hy7 ty1 (by simp))).trans ((hq106.2 (kb + 7) _ hy7 rfl).trans ((hq79.2 (kb + 7) _ hy7 rfl).trans ((hq65.2 (kb + 7) _ hy7 rfl).trans (hc7))))
        exact hp_iret hx hb hr hlocks hZ ⟨rfl, hP, (fun x8 hne0 hne1 hne2 hne3 hne4 hne5 hne6 hne7 hne8 hne9 hne10 hne11 hne12 hne13 hne14 hne15 hne16 hne17 => (fr193 x8 hne0).trans ((hx_fg (x := x8) hq106 (by obtain ⟨t9, h91, h92⟩ := hne17; exact ⟨t9, h91, by simp_all⟩)).trans ((hx_fg (x := x8) hq79 (by obtain ⟨t9, h91, h92⟩ := hne17; exact ⟨t9, h91, by simp_all⟩)).trans (hx_fg (x := x8) hq65 (by obtain ⟨t9, h91, h92⟩ := hne17; exact ⟨t9, h91, by simp_all⟩))))), e_fd, e_sz, e_bk, e_an, e_mk, kk, mm, tt_, fx200, ho194, fx196, fx197, fx198, fx199, fx201, Or.inr ⟨(fun g9 => hn39 g9.2.1), rfl, rfl, rfl, rfl⟩, by omega⟩ dX11_answer_185

theorem x_answer_0 (l : Launch) (D : va_G) (cs : Nat → ClassId) (B : Nat) (G : hq_G) (V : hp_V) (n : Nat) (hI : hq_I cs G V) (a : Nat) (kb : Nat) (qt : Nat) (qb : Nat) (mo : Nat) (q : Nat) (w : sp_W) (bk : sp_B) (ask : List Int) (k : Int32) (v : Int32) (te : Int32) (pe : Int32) (c_fs : Int32) (e_fd : Int32) (e_sz : Int32) (e_bk : Value) (e_an : Value) (e_mk : Value) (pz : Int32) (pf : Nat → Int32) (kk : Nat → Int32) (mm : Nat → Int32) (tt_ : Nat → Int32) (gf : Nat → Option Nat) (hc0 : V (a) = some (.inr (11, [.ref (kb), .ref (kb + 2), .ref (kb + 5), .ref (kb + 46), .ref (kb + 50), .ref (kb + 62), .ref (kb + 87), .int (c_fs), .ref (qt), .ref (qb)]))) (hc1 : V (kb + 50) = some (.inr (1, [.ref (kb + 51), .ref (kb + 52), .int (e_fd), .ref (kb + 53), .ref (kb + 55), .ref (kb + 57), e_bk, e_an, e_mk, .int (e_sz), .ref (kb + 59), .ref (kb + 60), .ref (kb + 61)]))) (hc2 : V (kb) = some (.inr (9, [.ref (kb + 1), .int (pz)]))) (hc3 : V (kb + 1) = some (.inl (cs 0, 4000, .inl (pf)))) (hc4 : V (kb + 59) = some (.inl (cs 1, 2, .inl (kk)))) (hc5 : V (kb + 60) = some (.inl (cs 1, 2, .inl (mm)))) (hc6 : V (kb + 61) = some (.inl (cs 1, 2, .inl (tt_)))) (hc7 : V (kb + 7) = some (.inl (cs 4, 4, .inr (.inr (.inr (.inr (gf))))))) (hT : hk_Ty G a kb mo q) (hT2 : hk_T2 G kb q) (hT3 : hk_T3 G kb) (hak : a + 1 = kb) (hqs : qt = kb + 88) (hBx : hx_BK cs V qt w bk) (hBS : hx_BS cs V qt) (hgd : sp_good w bk) (hgd2 : sp_good2 bk) (hg8 : sp_g8 w bk) (hask : sp_rp pz pf ask) (hpz : 0 ≤ pz.toInt ∧ pz.toInt ≤ 4000) (hgf : ∀ j, j < 4 → gf j = some (kb + 6 + 2 + 4 * j)) (hes : 0 ≤ e_sz.toInt ∧ e_sz.toInt ≤ 2) (hef : 0 ≤ e_fd.toInt ∧ e_fd.toInt ≤ 1) : hp_M l yX11_answer cX11_answer 7 (some .int) ({ frames := 8, cells := 0, slots := 0, locals := 198 }) D cs B V n [.ref (a), .int (k), .int (v), .int (te), .int (pe)] (hp_QI D cs B (fun r V' n' => n = n' ∧ hq_P cs G (fun _ => true) V V' ∧ (∀ x, x ≠ kb → x ≠ kb + 5 → x ≠ kb + 44 → x ≠ kb + 45 → x ≠ kb + 50 → x ≠ kb + 51 → x ≠ kb + 52 → x ≠ kb + 53 → x ≠ kb + 54 → x ≠ kb + 55 → x ≠ kb + 56 → x ≠ kb + 57 → x ≠ kb + 58 → x ≠ kb + 59 → x ≠ kb + 60 → x ≠ kb + 61 → (x < kb + 6 ∨ kb + 6 + 18 ≤ x) → (∃ t, G x = some t ∧ (hq_grp t).1 ≠ 0 ∧ (hq_grp t).1 ≠ 5 ∧ (hq_grp t).1 ≠ 6 ∧ (hq_grp t).1 ≠ 7) → V' x = V x) ∧ (∃ e_fd1 : Int32, ∃ e_sz1 : Int32, ∃ e_bk1 : Value, ∃ e_an1 : Value, ∃ e_mk1 : Value, ∃ kk1 : Nat → Int32, ∃ mm1 : Nat → Int32, ∃ tt1 : Nat → Int32, V' (a) = some (.inr (11, [.ref (kb), .ref (kb + 2), .ref (kb + 5), .ref (kb + 46), .ref (kb + 50), .ref (kb + 62), .ref (kb + 87), .int (c_fs), .ref (qt), .ref (qb)])) ∧ V' (kb) = some (.inr (9, [.ref (kb + 1), .int (0)])) ∧ V' (kb + 50) = some (.inr (1, [.ref (kb + 51), .ref (kb + 52), .int (e_fd1), .ref (kb + 53), .ref (kb + 55), .ref (kb + 57), e_bk1, e_an1, e_mk1, .int (e_sz1), .ref (kb + 59), .ref (kb + 60), .ref (kb + 61)])) ∧ V' (kb + 59) = some (.inl (cs 1, 2, .inl (kk1))) ∧ V' (kb + 60) = some (.inl (cs 1, 2, .inl (mm1))) ∧ V' (kb + 61) = some (.inl (cs 1, 2, .inl (tt1))) ∧ V' (kb + 7) = some (.inl (cs 4, 4, .inr (.inr (.inr (.inr (gf)))))) ∧ ((sp_Z w bk ask k.toInt v.toInt te.toInt pe.toInt ∧ sp_hl e_sz1 kk1 mm1 tt1 (sp_TL w bk ask v.toInt te.toInt pe.toInt)) ∨ (¬ sp_Z w bk ask k.toInt v.toInt te.toInt pe.toInt ∧ e_sz1 = e_sz ∧ kk1 = kk ∧ mm1 = mm ∧ tt1 = tt_)) ∧ ((0 ≤ e_fd1.toInt ∧ e_fd1.toInt ≤ 1) ∧ (0 ≤ e_sz1.toInt ∧ e_sz1.toInt ≤ 2))))) 0 0 := by
  by_cases h9 : sp_nfv bk 3 v.toInt te.toInt pe.toInt = -1
  · exact x_answerN_0 l D cs B G V n hI a kb qt qb mo q w bk ask k v te pe c_fs e_fd e_sz e_bk e_an e_mk pz pf kk mm tt_ gf hc0 hc1 hc2 hc3 hc4 hc5 hc6 hc7 hT hT2 hT3 hak hqs hBx hBS hgd hgd2 hg8 hask hpz hgf hes hef h9
  · exact x_answerC_0 l D cs B G V n hI a kb qt qb mo q w bk ask k v te pe c_fs e_fd e_sz e_bk e_an e_mk pz pf kk mm tt_ gf hc0 hc1 hc2 hc3 hc4 hc5 hc6 hc7 hT hT2 hT3 hak hqs hBx hBS hgd hgd2 hg8 hask hpz hgf hes hef h9

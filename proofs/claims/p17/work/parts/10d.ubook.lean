set_option maxHeartbeats 4000000 in
set_option maxRecDepth 100000 in
theorem x_book_0 (l : Launch) (D : va_G) (cs : Nat → ClassId) (B : Nat) (G : hq_G) (V : hp_V) (n : Nat) (hI : hq_I cs G V) (a : Nat) (kb : Nat) (qt : Nat) (qb : Nat) (mo : Nat) (q : Nat) (w : sp_W) (c_fs : Int32) (ptx : Value) (pou : Value) (fk : Int32) (fp : Int32) (nx : Int32) (tk : Int32) (st : Int32) (e_fd : Int32) (e_sz : Int32) (e_bk : Value) (e_an : Value) (e_mk : Value) (hc0 : V (a) = some (.inr (11, [.ref (kb), .ref (kb + 2), .ref (kb + 5), .ref (kb + 46), .ref (kb + 50), .ref (kb + 62), .ref (kb + 87), .int (c_fs), .ref (qt), .ref (qb)]))) (hc1 : V (kb + 2) = some (.inr (7, [.int (fk), .int (fp), ptx, pou, .int (nx), .int (tk), .int (st), .ref (kb + 3)]))) (hc2 : V (kb + 50) = some (.inr (1, [.ref (kb + 51), .ref (kb + 52), .int (e_fd), .ref (kb + 53), .ref (kb + 55), .ref (kb + 57), e_bk, e_an, e_mk, .int (e_sz), .ref (kb + 59), .ref (kb + 60), .ref (kb + 61)]))) (hp0 : hx_TP cs V kb w) (hp1 : hx_BS cs V qb) (hp2 : hx_SK cs V qb) (hT : hk_Ty G a kb mo q) (hT2 : hk_T2 G kb q) (hak : a + 1 = kb) (hqs : qt = kb + 88 ∧ qb = kb + 465) (hBK0 : hx_BK0 V qb) (hTS : hx_TS cs V (kb + 3) 12) (hfs : 0 ≤ c_fs.toInt ∧ c_fs.toInt ≤ 60) (hef : 0 ≤ e_fd.toInt ∧ e_fd.toInt ≤ 1) (hes : 0 ≤ e_sz.toInt ∧ e_sz.toInt ≤ 2) : hp_M l yX11_book cX11_book 3 (some .int) ({ frames := 11, cells := 0, slots := 0, locals := 243 }) D cs B V n [.ref (a)] (hp_QI D cs B (fun r V' n' => n = n' ∧ hq_P cs G (fun _ => true) V V' ∧ (∀ x, x ≠ a → x ≠ kb → x ≠ kb + 2 → x ≠ kb + 3 → x ≠ kb + 4 → (x < qb ∨ qb + 377 ≤ x) → (∃ t, G x = some t ∧ (hq_grp t).1 ≠ 0 ∧ (hq_grp t).1 ≠ 8 ∧ (hq_grp t).1 ≠ 12) → V' x = V x) ∧ (∃ fk1 : Int32, ∃ fp1 : Int32, ∃ nx1 : Int32, ∃ tk1 : Int32, ∃ st1 : Int32, ∃ fs1 : Int32, ∃ sz1 : Int32, ∃ to1 : Nat, ∃ sp1 : Nat, V' (a) = some (.inr (11, [.ref (kb), .ref (kb + 2), .ref (kb + 5), .ref (kb + 46), .ref (kb + 50), .ref (kb + 62), .ref (kb + 87), .int (fs1), .ref (to1), .ref (sp1)])) ∧ V' (kb) = some (.inr (9, [.ref (kb + 1), .int (0)])) ∧ V' (kb + 2) = some (.inr (7, [.int (fk1), .int (fp1), .ref (kb), .ref (qb), .int (nx1), .int (tk1), .int (st1), .ref (kb + 3)])) ∧ V' (kb + 50) = some (.inr (1, [.ref (kb + 51), .ref (kb + 52), .int (e_fd), .ref (kb + 53), .ref (kb + 55), .ref (kb + 57), e_bk, e_an, e_mk, .int (sz1), .ref (kb + 59), .ref (kb + 60), .ref (kb + 61)])) ∧ (hx_D (r.toInt = -1) (¬ (sp_prs w 9000 0 ([], [], [], [])).1 = 0 ∧ fk1.toInt = (sp_prs w 9000 0 ([], [], [], [])).1 ∧ fp1.toInt = sp_s w (sp_prs w 9000 0 ([], [], [], [])).2.1 ∧ to1 = qt ∧ sp1 = qb ∧ sz1 = e_sz ∧ V' (kb + 59) = V (kb + 59) ∧ V' (kb + 60) = V (kb + 60) ∧ V' (kb + 61) = V (kb + 61)) ((sp_prs w 9000 0 ([], [], [], [])).1 = 0 ∧ fk1.toInt = 0 ∧ fp1.toInt = -1 ∧ to1 = qb ∧ sp1 = qt ∧ hx_BK cs V' qb w (sp_prs w 9000 0 ([], [], [], [])).2.2 ∧ r.toInt = ((sp_prs w 9000 0 ([], [], [], [])).2.2.2.2.2.length : Int) ∧ sz1.toInt = 0)) ∧ (0 ≤ fs1.toInt ∧ fs1.toInt ≤ 60) ∧ (0 ≤ sz1.toInt ∧ sz1.toInt ≤ 2) ∧ (hx_SH cs V' qb) ∧ (hx_TS cs V' (kb + 3) 12)))) 0 0 := by
  refine hp_walk (R0 := RX11) (by decide) rfl ?_ (Nat.le_of_ble_eq_true rfl)
  intro p e s m below meth c ls hx hb hr hts hown hlocks hin hml hZ hl
  have hP : hq_P cs G (fun _ => true) V V := hq_P.rf hI
  have hl : lv_has ls 3 [(0, .ref (a))] := hl
  have hb_c_fs := hq_rng c_fs
  have hb_fk := hq_rng fk
  have hb_fp := hq_rng fp
  have hb_nx := hq_rng nx
  have hb_tk := hq_rng tk
  have hb_st := hq_rng st
  have hb_e_fd := hq_rng e_fd
  have hb_e_sz := hq_rng e_sz
  obtain ⟨ty0, ty1, ty2, ty3, ty4, ty5, ty6, ty7, ty8, ty9, ty10, ty11, ty12, ty13, ty14, ty15, ty16, ty17, ty18, ty19, ty20, hR⟩ := id hT
  obtain ⟨t2a, t2b, t2c, t2d⟩ := id hT2
  obtain ⟨hqt, hqb⟩ := hqs
  have hyqt : G qt = some (6, 0, 0, 0) := by rw [hqt]; exact ty18
  have hyqb : G qb = some (6, 1, 0, 0) := by rw [hqb]; exact ty19
  have hyb : hk_BTy G qb 1 := by rw [hqb]; exact t2c
  obtain ⟨hyb1, hyb14, hyb75, hyb76, hBT⟩ := hyb
  obtain ⟨nz, nf, hnm1, hnm2, hnm3⟩ := id hTS
  have hb_nz := hq_rng nz
  have hfn9 := hq_rgB hI t2a hnm2
  have hz9 := hx_TP.size hp0
  obtain ⟨tz, tg, htz, htg, hz1, hz2, hz3⟩ := id hp0
  have hb_tz := hq_rng tz
  have hfit := hq_rgB hP.1 ty2 htg
  refine lv_aload_n hx hb dX11_book_0 rfl (lv_at hl 0 rfl) ?_
  refine hp_get (v := .ref (kb + 2)) hx hb hts hown hZ hc0 fl_X11_21 rfl dX11_book_1 ?_
  refine lv_aload_n hx hb dX11_book_4 rfl (lv_at hl 0 rfl) ?_
  refine hp_get (v := .ref (kb)) hx hb hts hown hZ hc0 fl_X11_14 rfl dX11_book_5 ?_
  refine lv_aload_n hx hb dX11_book_8 rfl (lv_at hl 0 rfl) ?_
  refine hp_get (v := .ref (qb)) hx hb hts hown hZ hc0 fl_X11_68 rfl dX11_book_9 ?_
  obtain ⟨hN3, g2, eV1, hf4⟩ := hq_o2 hP.1 hyb75
  refine hp_calli (hp_runV (As := [.ref (kb), .ref (qb)]) (rest := []) hx hb hml hown hts (x_parse l D cs B G V n hP.1 (kb) (qb) (w) (1) (ptx) (pou) (fk) (fp) (nx) (tk) (st) (nz) (nf) (g2) ty1 ty2 ty3 ty4 t2a hyqb hyb1 hyb14 hyb75 hyb76 hc1 hnm1 hnm2 eV1 hp0 hp1 hp2 (by omega) hBT hBK0) hZ hc1 cv_X11_77 rfl rfl ⟨Nat.le_of_ble_eq_true rfl, Nat.le_of_ble_eq_true rfl⟩ rfl hl.1 rfl (Nat.le_of_ble_eq_true rfl) dX11_book_12 ⟨(Nat.le_of_ble_eq_true rfl), (Nat.le_of_ble_eq_true rfl)⟩) hZ (fun r8 V5 n6 _ _ hw7 hZ => ?_)
  obtain ⟨rfl, hq9, fr10, z11, z12, z13, z14, z15, z16, u17, ho18, ho19, ho20, hp21, hp22, hp23, hp24, hp25⟩ := hw7
  have b26 := hq_rng z11
  have b27 := hq_rng z12
  have b28 := hq_rng z13
  have b29 := hq_rng z14
  have b30 := hq_rng z15
  have b31 := hq_rng z16
  have hP := hP.trans hq9 (fun _ h => Bool.noConfusion h)
  have hf32 := hq_rgB hP.1 t2a ho20
  have b33 := hq_rng r8
  refine lv_istore_n (lv' := [(1, .int (r8)), (0, .ref (a))]) hx hb dX11_book_15 rfl hl (by decide) rfl (fun ls hl => ?_)
  refine lv_aload_n hx hb dX11_book_16 rfl (lv_at hl 1 rfl) ?_
  have fx34 : V5 (a) = some (.inr (11, [.ref (kb), .ref (kb + 2), .ref (kb + 5), .ref (kb + 46), .ref (kb + 50), .ref (kb + 62), .ref (kb + 87), .int (c_fs), .ref (qt), .ref (qb)])) := (fr10 (a) (hq_tne ty0 ty3 (by simp)) (hq_tne ty0 ty4 (by simp)) (hq_tne ty0 t2a (by simp)) (by omega)).trans (hc0)
  refine hp_get (v := .ref (kb)) hx hb hts hown hZ fx34 fl_X11_14 rfl dX11_book_17 ?_
  have fx35 : V5 (kb) = some (.inr (9, [.ref (kb + 1), .int (tz)])) := (fr10 (kb) (hq_tne ty1 ty3 (by simp)) (hq_tne ty1 ty4 (by simp)) (hq_tne ty1 t2a (by simp)) (by omega)).trans (htz)
  refine hp_callv (hp_runV (As := []) (rest := []) hx hb hml hown hts (x_clear l D cs B G V5 n hP.1 (kb) (4000) (tz) ty1 ty2 fx35  (by decide)) hZ fx35 cv_X11_81 rfl rfl ⟨Nat.le_of_ble_eq_true rfl, Nat.le_of_ble_eq_true rfl⟩ rfl hl.1 rfl (Nat.le_of_ble_eq_true rfl) dX11_book_20 ⟨(Nat.le_of_ble_eq_true rfl), (Nat.le_of_ble_eq_true rfl)⟩) hZ (fun V36 n37 _ _ hw38 hZ => ?_)
  obtain ⟨rfl, hq40, fr41, ho42⟩ := hw38
  have hP := hP.trans hq40 (fun _ h => Bool.noConfusion h)
  refine lv_iload_n hx hb dX11_book_23 rfl (lv_at hl 0 rfl) ?_
  refine lv_if_ne (tgt := 29) hx hb dX11_book_24 (by decide) (fun c43 => ?_) (fun c43 => ?_)
  · have c43 : ¬ (r8).toInt = (0 : Int) := fun h9 => c43 (hq_eqi.mpr h9)
    obtain ⟨hF1, hF2, hF3, hF4⟩ := hx_D.neg hp21 (by omega)
    refine lv_aload_n hx hb dX11_book_29 rfl (lv_at hl 1 rfl) ?_
    have fx44 : V36 (a) = some (.inr (11, [.ref (kb), .ref (kb + 2), .ref (kb + 5), .ref (kb + 46), .ref (kb + 50), .ref (kb + 62), .ref (kb + 87), .int (c_fs), .ref (qt), .ref (qb)])) := (fr41 (a) (hq_tne ty0 ty1 (by simp))).trans (fx34)
    refine hp_get (v := .ref (qt)) hx hb hts hown hZ fx44 fl_X11_64 rfl dX11_book_30 ?_
    refine lv_astore_n (lv' := [(2, .ref (qt)), (1, .int (r8)), (0, .ref (a))]) hx hb dX11_book_33 rfl hl (by decide) rfl (fun ls hl => ?_)
    refine lv_aload_n hx hb dX11_book_34 rfl (lv_at hl 2 rfl) ?_
    refine lv_aload_n hx hb dX11_book_35 rfl (lv_at hl 2 rfl) ?_
    refine hp_get (v := .ref (qb)) hx hb hts hown hZ fx44 fl_X11_68 rfl dX11_book_36 ?_
    refine hp_put hx hb hts hown hZ fx44 fp_X11_64 rfl rfl (Nat.le_of_ble_eq_true rfl) dX11_book_39 (fun V45 _ _ e46 o47 hZ => ?_)
    have e46 : V45 (a) = some (.inr (11, [.ref (kb), .ref (kb + 2), .ref (kb + 5), .ref (kb + 46), .ref (kb + 50), .ref (kb + 62), .ref (kb + 87), .int (c_fs), .ref (qb), .ref (qb)])) := e46
    have hP := hP.put ty0 e46 o47 (trivial) rfl
    refine lv_aload_n hx hb dX11_book_42 rfl (lv_at hl 2 rfl) ?_
    refine lv_aload_n hx hb dX11_book_43 rfl (lv_at hl 0 rfl) ?_
    refine hp_put hx hb hts hown hZ e46 fp_X11_68 rfl rfl (Nat.le_of_ble_eq_true rfl) dX11_book_44 (fun V48 _ _ e49 o50 hZ => ?_)
    have e49 : V48 (a) = some (.inr (11, [.ref (kb), .ref (kb + 2), .ref (kb + 5), .ref (kb + 46), .ref (kb + 50), .ref (kb + 62), .ref (kb + 87), .int (c_fs), .ref (qb), .ref (qt)])) := e49
    have hP := hP.put ty0 e49 o50 (trivial) rfl
    refine lv_aload_n hx hb dX11_book_47 rfl (lv_at hl 2 rfl) ?_
    have fx60 : V48 (kb + 50) = some (.inr (1, [.ref (kb + 51), .ref (kb + 52), .int (e_fd), .ref (kb + 53), .ref (kb + 55), .ref (kb + 57), e_bk, e_an, e_mk, .int (e_sz), .ref (kb + 59), .ref (kb + 60), .ref (kb + 61)])) := (o50 (kb + 50) (hq_tne ty7 ty0 (by simp))).trans ((o47 (kb + 50) (hq_tne ty7 ty0 (by simp))).trans ((fr41 (kb + 50) (hq_tne ty7 ty1 (by simp))).trans ((fr10 (kb + 50) (hq_tne ty7 ty3 (by simp)) (hq_tne ty7 ty4 (by simp)) (hq_tne ty7 t2a (by simp)) (by omega)).trans (hc2))))
    refine hp_callv (hp_runV (As := []) (rest := []) hx hb hml hown hts (t_X11_forgetAll_1 l D cs B G  V48 n hP.1  (a) ty0 e49 ty1 ty3 ty5 ty6 ty7 ty16 ty17 hyqb hyqt (by omega) fx60 ty8 ty9 ty10 ty11 ty12 ty13 ty14 ty15 (by omega) (by omega) ) hZ e49 cv_X11_84 rfl rfl ⟨Nat.le_of_ble_eq_true rfl, Nat.le_of_ble_eq_true rfl⟩ rfl hl.1 rfl (Nat.le_of_ble_eq_true rfl) dX11_book_48 ⟨(Nat.le_of_ble_eq_true rfl), (Nat.le_of_ble_eq_true rfl)⟩) hZ (fun V51 n52 _ _ hw53 hZ => ?_)
    obtain ⟨rfl, hq55, ⟨z57, ho58, hi59⟩, ⟨z61, ho62, hi63, hi64⟩⟩ := hw53
    have hP := hP.trans hq55 (fun _ h => Bool.noConfusion h)
    have b65 := hq_rng z57
    have b66 := hq_rng z61
    refine lv_aload_n hx hb dX11_book_51 rfl (lv_at hl 2 rfl) ?_
    refine hp_get (v := .ref (qb)) hx hb hts hown hZ ho58 fl_X11_64 rfl dX11_book_52 ?_
    have pk67 := hF4.keep (fun x7 (hx7 : qb ≤ x7 ∧ x7 < qb + 377) => (hT2.fr hq55 (fun g hg => by unfold hk_gr at hg; simp; omega) x7 (by unfold hk_In; omega)).trans ((o50 x7 (by omega)).trans ((o47 x7 (by omega)).trans (fr41 x7 (by omega)))))
    obtain ⟨⟨bc9, bv9, bl9, hbk9, hb91, hb92, hb93⟩, -⟩ := id pk67
    have hb_bl9 := hq_rng bl9
    refine hp_get (v := .int (bl9)) hx hb hts hown hZ hbk9 fl_X11_87 rfl dX11_book_55 ?_
    have fx68 : V51 (kb + 2) = some (.inr (7, [.int (z11), .int (z12), .ref (kb), .ref (qb), .int (z13), .int (z14), .int (z15), .ref (kb + 3)])) := (hq55.2 (kb + 2) _ ty3 rfl).trans ((o50 (kb + 2) (hq_tne ty3 ty0 (by simp))).trans ((o47 (kb + 2) (hq_tne ty3 ty0 (by simp))).trans ((fr41 (kb + 2) (hq_tne ty3 ty1 (by simp))).trans (ho18))))
    have fx69 : V51 (kb + 3) = some (.inr (9, [.ref (kb + 4), .int (z16)])) := (hq55.2 (kb + 3) _ ty4 rfl).trans ((o50 (kb + 3) (hq_tne ty4 ty0 (by simp))).trans ((o47 (kb + 3) (hq_tne ty4 ty0 (by simp))).trans ((fr41 (kb + 3) (hq_tne ty4 ty1 (by simp))).trans (ho19))))
    have fx70 : V51 (kb + 4) = some (.inl (cs 0, 12, .inl (u17))) := (hq55.2 (kb + 4) _ t2a rfl).trans ((o50 (kb + 4) (hq_tne t2a ty0 (by simp))).trans ((o47 (kb + 4) (hq_tne t2a ty0 (by simp))).trans ((fr41 (kb + 4) (hq_tne t2a ty1 (by simp))).trans (ho20))))
    have pk71 := hp23.keep (fun x7 (hx7 : qb + 2 ≤ x7 ∧ x7 < qb + 377) => (hT2.fr hq55 (fun g hg => by unfold hk_gr at hg; simp; omega) x7 (by unfold hk_In; omega)).trans ((o50 x7 (by omega)).trans ((o47 x7 (by omega)).trans (fr41 x7 (by omega)))))
    have pk72 := hp24.keep ((hq55.2 (qb + 1) _ hyb1 rfl).trans ((o50 (qb + 1) (hq_tne hyb1 ty0 (by simp))).trans ((o47 (qb + 1) (hq_tne hyb1 ty0 (by simp))).trans (fr41 (qb + 1) (hq_tne hyb1 ty1 (by simp)))))) ((hq55.2 (qb + 14) _ hyb14 rfl).trans ((o50 (qb + 14) (hq_tne hyb14 ty0 (by simp))).trans ((o47 (qb + 14) (hq_tne hyb14 ty0 (by simp))).trans (fr41 (qb + 14) (hq_tne hyb14 ty1 (by simp)))))) ((hq55.2 (qb + 76) _ hyb76 rfl).trans ((o50 (qb + 76) (hq_tne hyb76 ty0 (by simp))).trans ((o47 (qb + 76) (hq_tne hyb76 ty0 (by simp))).trans (fr41 (qb + 76) (hq_tne hyb76 ty1 (by simp))))))
    have pk73 := hp25.keep ((hq55.2 (qb) _ hyqb rfl).trans ((o50 (qb) (hq_tne hyqb ty0 (by simp))).trans ((o47 (qb) (hq_tne hyqb ty0 (by simp))).trans (fr41 (qb) (hq_tne hyqb ty1 (by simp))))))
    have fx74 : V51 (kb) = some (.inr (9, [.ref (kb + 1), .int (0)])) := (hq55.2 (kb) _ ty1 rfl).trans ((o50 (kb) (hq_tne ty1 ty0 (by simp))).trans ((o47 (kb) (hq_tne ty1 ty0 (by simp))).trans (ho42)))
    exact hp_iret hx hb hr hlocks hZ ⟨rfl, hP, (fun x8 hne0 hne1 hne2 hne3 hne4 hne5 hne6 => (hx_fg (x := x8) hq55 (by obtain ⟨t9, h91, h92⟩ := hne6; exact ⟨t9, h91, by simp_all⟩)).trans ((o50 x8 hne0).trans ((o47 x8 hne0).trans ((fr41 x8 hne1).trans (fr10 x8 hne2 hne3 hne4 hne5))))), z11, z12, z13, z14, z15, z57, z61, qb, qt, ho58, fx74, fx68, ho62, hx_D.r (by omega) ⟨hF1, hF2, hF3, rfl, rfl, pk67, by omega, by omega⟩, by omega, by omega, ⟨pk71, pk72, pk73⟩, hx_TS.of hP.1 ty4 fx69 fx70⟩ dX11_book_58
  · have c43 : (r8).toInt = (0 : Int) := hq_eqi.mp c43
    obtain ⟨hF1, hF2, hF3⟩ := hx_D.pos hp21 (by omega)
    refine lv_iconst (v := -1) hx hb dX11_book_27 (by decide) ?_
    have hl76 : (-1 : Int32).toInt = -1 := by decide
    have fx77 : V36 (kb + 2) = some (.inr (7, [.int (z11), .int (z12), .ref (kb), .ref (qb), .int (z13), .int (z14), .int (z15), .ref (kb + 3)])) := (fr41 (kb + 2) (hq_tne ty3 ty1 (by simp))).trans (ho18)
    have fx78 : V36 (a) = some (.inr (11, [.ref (kb), .ref (kb + 2), .ref (kb + 5), .ref (kb + 46), .ref (kb + 50), .ref (kb + 62), .ref (kb + 87), .int (c_fs), .ref (qt), .ref (qb)])) := (fr41 (a) (hq_tne ty0 ty1 (by simp))).trans (fx34)
    have fx79 : V36 (kb + 50) = some (.inr (1, [.ref (kb + 51), .ref (kb + 52), .int (e_fd), .ref (kb + 53), .ref (kb + 55), .ref (kb + 57), e_bk, e_an, e_mk, .int (e_sz), .ref (kb + 59), .ref (kb + 60), .ref (kb + 61)])) := (fr41 (kb + 50) (hq_tne ty7 ty1 (by simp))).trans ((fr10 (kb + 50) (hq_tne ty7 ty3 (by simp)) (hq_tne ty7 ty4 (by simp)) (hq_tne ty7 t2a (by simp)) (by omega)).trans (hc2))
    have fx80 : V36 (kb + 3) = some (.inr (9, [.ref (kb + 4), .int (z16)])) := (fr41 (kb + 3) (hq_tne ty4 ty1 (by simp))).trans (ho19)
    have fx81 : V36 (kb + 4) = some (.inl (cs 0, 12, .inl (u17))) := (fr41 (kb + 4) (hq_tne t2a ty1 (by simp))).trans (ho20)
    have hl9 : (-1 : Int32).toInt = -1 := by decide
    have pk82 := hp23.keep (fun x7 (hx7 : qb + 2 ≤ x7 ∧ x7 < qb + 377) => fr41 x7 (by omega))
    have pk83 := hp24.keep (fr41 (qb + 1) (hq_tne hyb1 ty1 (by simp))) (fr41 (qb + 14) (hq_tne hyb14 ty1 (by simp))) (fr41 (qb + 76) (hq_tne hyb76 ty1 (by simp)))
    have pk84 := hp25.keep (fr41 (qb) (hq_tne hyqb ty1 (by simp)))
    exact hp_iret hx hb hr hlocks hZ ⟨rfl, hP, (fun x8 hne0 hne1 hne2 hne3 hne4 hne5 hne6 => (fr41 x8 hne1).trans (fr10 x8 hne2 hne3 hne4 hne5)), z11, z12, z13, z14, z15, c_fs, e_sz, qt, qb, fx78, ho42, fx77, fx79, hx_D.l (by omega) ⟨hF1, hF2, hF3, rfl, rfl, rfl, (fr41 (kb + 59) (hq_tne ty13 ty1 (by simp))).trans (fr10 (kb + 59) (hq_tne ty13 ty3 (by simp)) (hq_tne ty13 ty4 (by simp)) (hq_tne ty13 t2a (by simp)) (by omega)), (fr41 (kb + 60) (hq_tne ty14 ty1 (by simp))).trans (fr10 (kb + 60) (hq_tne ty14 ty3 (by simp)) (hq_tne ty14 ty4 (by simp)) (hq_tne ty14 t2a (by simp)) (by omega)), (fr41 (kb + 61) (hq_tne ty15 ty1 (by simp))).trans (fr10 (kb + 61) (hq_tne ty15 ty3 (by simp)) (hq_tne ty15 ty4 (by simp)) (hq_tne ty15 t2a (by simp)) (by omega))⟩, by omega, by omega, ⟨pk82, pk83, pk84⟩, hx_TS.of hP.1 ty4 fx80 fx81⟩ dX11_book_28

set_option maxHeartbeats 4000000 in
set_option maxRecDepth 100000 in
theorem x_book_1 (l : Launch) (D : va_G) (cs : Nat → ClassId) (B : Nat) (G : hq_G) (V : hp_V) (n : Nat) (hI : hq_I cs G V) (a : Nat) (kb : Nat) (qt : Nat) (qb : Nat) (mo : Nat) (q : Nat) (w : sp_W) (c_fs : Int32) (ptx : Value) (pou : Value) (fk : Int32) (fp : Int32) (nx : Int32) (tk : Int32) (st : Int32) (e_fd : Int32) (e_sz : Int32) (e_bk : Value) (e_an : Value) (e_mk : Value) (hc0 : V (a) = some (.inr (11, [.ref (kb), .ref (kb + 2), .ref (kb + 5), .ref (kb + 46), .ref (kb + 50), .ref (kb + 62), .ref (kb + 87), .int (c_fs), .ref (qt), .ref (qb)]))) (hc1 : V (kb + 2) = some (.inr (7, [.int (fk), .int (fp), ptx, pou, .int (nx), .int (tk), .int (st), .ref (kb + 3)]))) (hc2 : V (kb + 50) = some (.inr (1, [.ref (kb + 51), .ref (kb + 52), .int (e_fd), .ref (kb + 53), .ref (kb + 55), .ref (kb + 57), e_bk, e_an, e_mk, .int (e_sz), .ref (kb + 59), .ref (kb + 60), .ref (kb + 61)]))) (hp0 : hx_TP cs V kb w) (hp1 : hx_BS cs V qb) (hp2 : hx_SK cs V qb) (hT : hk_Ty G a kb mo q) (hT2 : hk_T2 G kb q) (hak : a + 1 = kb) (hqs : qt = kb + 465 ∧ qb = kb + 88) (hBK0 : hx_BK0 V qb) (hTS : hx_TS cs V (kb + 3) 12) (hfs : 0 ≤ c_fs.toInt ∧ c_fs.toInt ≤ 60) (hef : 0 ≤ e_fd.toInt ∧ e_fd.toInt ≤ 1) (hes : 0 ≤ e_sz.toInt ∧ e_sz.toInt ≤ 2) : hp_M l yX11_book cX11_book 3 (some .int) ({ frames := 11, cells := 0, slots := 0, locals := 243 }) D cs B V n [.ref (a)] (hp_QI D cs B (fun r V' n' => n = n' ∧ hq_P cs G (fun _ => true) V V' ∧ (∀ x, x ≠ a → x ≠ kb → x ≠ kb + 2 → x ≠ kb + 3 → x ≠ kb + 4 → (x < qb ∨ qb + 377 ≤ x) → (∃ t, G x = some t ∧ (hq_grp t).1 ≠ 0 ∧ (hq_grp t).1 ≠ 8 ∧ (hq_grp t).1 ≠ 12) → V' x = V x) ∧ (∃ fk1 : Int32, ∃ fp1 : Int32, ∃ nx1 : Int32, ∃ tk1 : Int32, ∃ st1 : Int32, ∃ fs1 : Int32, ∃ sz1 : Int32, ∃ to1 : Nat, ∃ sp1 : Nat, V' (a) = some (.inr (11, [.ref (kb), .ref (kb + 2), .ref (kb + 5), .ref (kb + 46), .ref (kb + 50), .ref (kb + 62), .ref (kb + 87), .int (fs1), .ref (to1), .ref (sp1)])) ∧ V' (kb) = some (.inr (9, [.ref (kb + 1), .int (0)])) ∧ V' (kb + 2) = some (.inr (7, [.int (fk1), .int (fp1), .ref (kb), .ref (qb), .int (nx1), .int (tk1), .int (st1), .ref (kb + 3)])) ∧ V' (kb + 50) = some (.inr (1, [.ref (kb + 51), .ref (kb + 52), .int (e_fd), .ref (kb + 53), .ref (kb + 55), .ref (kb + 57), e_bk, e_an, e_mk, .int (sz1), .ref (kb + 59), .ref (kb + 60), .ref (kb + 61)])) ∧ (hx_D (r.toInt = -1) (¬ (sp_prs w 9000 0 ([], [], [], [])).1 = 0 ∧ fk1.toInt = (sp_prs w 9000 0 ([], [], [], [])).1 ∧ fp1.toInt = sp_s w (sp_prs w 9000 0 ([], [], [], [])).2.1 ∧ to1 = qt ∧ sp1 = qb ∧ sz1 = e_sz ∧ V' (kb + 59) = V (kb + 59) ∧ V' (kb + 60) = V (kb + 60) ∧ V' (kb + 61) = V (kb + 61)) ((sp_prs w 9000 0 ([], [], [], [])).1 = 0 ∧ fk1.toInt = 0 ∧ fp1.toInt = -1 ∧ to1 = qb ∧ sp1 = qt ∧ hx_BK cs V' qb w (sp_prs w 9000 0 ([], [], [], [])).2.2 ∧ r.toInt = ((sp_prs w 9000 0 ([], [], [], [])).2.2.2.2.2.length : Int) ∧ sz1.toInt = 0)) ∧ (0 ≤ fs1.toInt ∧ fs1.toInt ≤ 60) ∧ (0 ≤ sz1.toInt ∧ sz1.toInt ≤ 2) ∧ (hx_SH cs V' qb) ∧ (hx_TS cs V' (kb + 3) 12)))) 0 0 := by
  refine hp_walk (R0 := RX11) (by decide) rfl ?_ (Nat.le_of_ble_eq_true rfl)
  intro p e s m below meth c ls hx hb hr hts hown hlocks hin hml hZ hl
  have hP : hq_P cs G (fun _ => true) V V := hq_P.rf hI
  have hl : lv_has ls 3 [(0, .ref (a))] := hl
  have hb_c_fs := hq_rng c_fs
  have hb_fk := hq_rng fk
  have hb_fp := hq_rng fp
  have hb_nx := hq_rng nx
  have hb_tk := hq_rng tk
  have hb_st := hq_rng st
  have hb_e_fd := hq_rng e_fd
  have hb_e_sz := hq_rng e_sz
  obtain ⟨ty0, ty1, ty2, ty3, ty4, ty5, ty6, ty7, ty8, ty9, ty10, ty11, ty12, ty13, ty14, ty15, ty16, ty17, ty18, ty19, ty20, hR⟩ := id hT
  obtain ⟨t2a, t2b, t2c, t2d⟩ := id hT2
  obtain ⟨hqt, hqb⟩ := hqs
  have hyqt : G qt = some (6, 1, 0, 0) := by rw [hqt]; exact ty19
  have hyqb : G qb = some (6, 0, 0, 0) := by rw [hqb]; exact ty18
  have hyb : hk_BTy G qb 0 := by rw [hqb]; exact t2b
  obtain ⟨hyb1, hyb14, hyb75, hyb76, hBT⟩ := hyb
  obtain ⟨nz, nf, hnm1, hnm2, hnm3⟩ := id hTS
  have hb_nz := hq_rng nz
  have hfn9 := hq_rgB hI t2a hnm2
  have hz9 := hx_TP.size hp0
  obtain ⟨tz, tg, htz, htg, hz1, hz2, hz3⟩ := id hp0
  have hb_tz := hq_rng tz
  have hfit := hq_rgB hP.1 ty2 htg
  refine lv_aload_n hx hb dX11_book_0 rfl (lv_at hl 0 rfl) ?_
  refine hp_get (v := .ref (kb + 2)) hx hb hts hown hZ hc0 fl_X11_21 rfl dX11_book_1 ?_
  refine lv_aload_n hx hb dX11_book_4 rfl (lv_at hl 0 rfl) ?_
  refine hp_get (v := .ref (kb)) hx hb hts hown hZ hc0 fl_X11_14 rfl dX11_book_5 ?_
  refine lv_aload_n hx hb dX11_book_8 rfl (lv_at hl 0 rfl) ?_
  refine hp_get (v := .ref (qb)) hx hb hts hown hZ hc0 fl_X11_68 rfl dX11_book_9 ?_
  obtain ⟨hN3, g2, eV1, hf4⟩ := hq_o2 hP.1 hyb75
  refine hp_calli (hp_runV (As := [.ref (kb), .ref (qb)]) (rest := []) hx hb hml hown hts (x_parse l D cs B G V n hP.1 (kb) (qb) (w) (0) (ptx) (pou) (fk) (fp) (nx) (tk) (st) (nz) (nf) (g2) ty1 ty2 ty3 ty4 t2a hyqb hyb1 hyb14 hyb75 hyb76 hc1 hnm1 hnm2 eV1 hp0 hp1 hp2 (by omega) hBT hBK0) hZ hc1 cv_X11_77 rfl rfl ⟨Nat.le_of_ble_eq_true rfl, Nat.le_of_ble_eq_true rfl⟩ rfl hl.1 rfl (Nat.le_of_ble_eq_true rfl) dX11_book_12 ⟨(Nat.le_of_ble_eq_true rfl), (Nat.le_of_ble_eq_true rfl)⟩) hZ (fun r8 V5 n6 _ _ hw7 hZ => ?_)
  obtain ⟨rfl, hq9, fr10, z11, z12, z13, z14, z15, z16, u17, ho18, ho19, ho20, hp21, hp22, hp23, hp24, hp25⟩ := hw7
  have b26 := hq_rng z11
  have b27 := hq_rng z12
  have b28 := hq_rng z13
  have b29 := hq_rng z14
  have b30 := hq_rng z15
  have b31 := hq_rng z16
  have hP := hP.trans hq9 (fun _ h => Bool.noConfusion h)
  have hf32 := hq_rgB hP.1 t2a ho20
  have b33 := hq_rng r8
  refine lv_istore_n (lv' := [(1, .int (r8)), (0, .ref (a))]) hx hb dX11_book_15 rfl hl (by decide) rfl (fun ls hl => ?_)
  refine lv_aload_n hx hb dX11_book_16 rfl (lv_at hl 1 rfl) ?_
  have fx34 : V5 (a) = some (.inr (11, [.ref (kb), .ref (kb + 2), .ref (kb + 5), .ref (kb + 46), .ref (kb + 50), .ref (kb + 62), .ref (kb + 87), .int (c_fs), .ref (qt), .ref (qb)])) := (fr10 (a) (hq_tne ty0 ty3 (by simp)) (hq_tne ty0 ty4 (by simp)) (hq_tne ty0 t2a (by simp)) (by omega)).trans (hc0)
  refine hp_get (v := .ref (kb)) hx hb hts hown hZ fx34 fl_X11_14 rfl dX11_book_17 ?_
  have fx35 : V5 (kb) = some (.inr (9, [.ref (kb + 1), .int (tz)])) := (fr10 (kb) (hq_tne ty1 ty3 (by simp)) (hq_tne ty1 ty4 (by simp)) (hq_tne ty1 t2a (by simp)) (by omega)).trans (htz)
  refine hp_callv (hp_runV (As := []) (rest := []) hx hb hml hown hts (x_clear l D cs B G V5 n hP.1 (kb) (4000) (tz) ty1 ty2 fx35  (by decide)) hZ fx35 cv_X11_81 rfl rfl ⟨Nat.le_of_ble_eq_true rfl, Nat.le_of_ble_eq_true rfl⟩ rfl hl.1 rfl (Nat.le_of_ble_eq_true rfl) dX11_book_20 ⟨(Nat.le_of_ble_eq_true rfl), (Nat.le_of_ble_eq_true rfl)⟩) hZ (fun V36 n37 _ _ hw38 hZ => ?_)
  obtain ⟨rfl, hq40, fr41, ho42⟩ := hw38
  have hP := hP.trans hq40 (fun _ h => Bool.noConfusion h)
  refine lv_iload_n hx hb dX11_book_23 rfl (lv_at hl 0 rfl) ?_
  refine lv_if_ne (tgt := 29) hx hb dX11_book_24 (by decide) (fun c43 => ?_) (fun c43 => ?_)
  · have c43 : ¬ (r8).toInt = (0 : Int) := fun h9 => c43 (hq_eqi.mpr h9)
    obtain ⟨hF1, hF2, hF3, hF4⟩ := hx_D.neg hp21 (by omega)
    refine lv_aload_n hx hb dX11_book_29 rfl (lv_at hl 1 rfl) ?_
    have fx44 : V36 (a) = some (.inr (11, [.ref (kb), .ref (kb + 2), .ref (kb + 5), .ref (kb + 46), .ref (kb + 50), .ref (kb + 62), .ref (kb + 87), .int (c_fs), .ref (qt), .ref (qb)])) := (fr41 (a) (hq_tne ty0 ty1 (by simp))).trans (fx34)
    refine hp_get (v := .ref (qt)) hx hb hts hown hZ fx44 fl_X11_64 rfl dX11_book_30 ?_
    refine lv_astore_n (lv' := [(2, .ref (qt)), (1, .int (r8)), (0, .ref (a))]) hx hb dX11_book_33 rfl hl (by decide) rfl (fun ls hl => ?_)
    refine lv_aload_n hx hb dX11_book_34 rfl (lv_at hl 2 rfl) ?_
    refine lv_aload_n hx hb dX11_book_35 rfl (lv_at hl 2 rfl) ?_
    refine hp_get (v := .ref (qb)) hx hb hts hown hZ fx44 fl_X11_68 rfl dX11_book_36 ?_
    refine hp_put hx hb hts hown hZ fx44 fp_X11_64 rfl rfl (Nat.le_of_ble_eq_true rfl) dX11_book_39 (fun V45 _ _ e46 o47 hZ => ?_)
    have e46 : V45 (a) = some (.inr (11, [.ref (kb), .ref (kb + 2), .ref (kb + 5), .ref (kb + 46), .ref (kb + 50), .ref (kb + 62), .ref (kb + 87), .int (c_fs), .ref (qb), .ref (qb)])) := e46
    have hP := hP.put ty0 e46 o47 (trivial) rfl
    refine lv_aload_n hx hb dX11_book_42 rfl (lv_at hl 2 rfl) ?_
    refine lv_aload_n hx hb dX11_book_43 rfl (lv_at hl 0 rfl) ?_
    refine hp_put hx hb hts hown hZ e46 fp_X11_68 rfl rfl (Nat.le_of_ble_eq_true rfl) dX11_book_44 (fun V48 _ _ e49 o50 hZ => ?_)
    have e49 : V48 (a) = some (.inr (11, [.ref (kb), .ref (kb + 2), .ref (kb + 5), .ref (kb + 46), .ref (kb + 50), .ref (kb + 62), .ref (kb + 87), .int (c_fs), .ref (qb), .ref (qt)])) := e49
    have hP := hP.put ty0 e49 o50 (trivial) rfl
    refine lv_aload_n hx hb dX11_book_47 rfl (lv_at hl 2 rfl) ?_
    have fx60 : V48 (kb + 50) = some (.inr (1, [.ref (kb + 51), .ref (kb + 52), .int (e_fd), .ref (kb + 53), .ref (kb + 55), .ref (kb + 57), e_bk, e_an, e_mk, .int (e_sz), .ref (kb + 59), .ref (kb + 60), .ref (kb + 61)])) := (o50 (kb + 50) (hq_tne ty7 ty0 (by simp))).trans ((o47 (kb + 50) (hq_tne ty7 ty0 (by simp))).trans ((fr41 (kb + 50) (hq_tne ty7 ty1 (by simp))).trans ((fr10 (kb + 50) (hq_tne ty7 ty3 (by simp)) (hq_tne ty7 ty4 (by simp)) (hq_tne ty7 t2a (by simp)) (by omega)).trans (hc2))))
    refine hp_callv (hp_runV (As := []) (rest := []) hx hb hml hown hts (t_X11_forgetAll_0 l D cs B G  V48 n hP.1  (a) ty0 e49 ty1 ty3 ty5 ty6 ty7 ty16 ty17 hyqb hyqt (by omega) fx60 ty8 ty9 ty10 ty11 ty12 ty13 ty14 ty15 (by omega) (by omega) ) hZ e49 cv_X11_84 rfl rfl ⟨Nat.le_of_ble_eq_true rfl, Nat.le_of_ble_eq_true rfl⟩ rfl hl.1 rfl (Nat.le_of_ble_eq_true rfl) dX11_book_48 ⟨(Nat.le_of_ble_eq_true rfl), (Nat.le_of_ble_eq_true rfl)⟩) hZ (fun V51 n52 _ _ hw53 hZ => ?_)
    obtain ⟨rfl, hq55, ⟨z57, ho58, hi59⟩, ⟨z61, ho62, hi63, hi64⟩⟩ := hw53
    have hP := hP.trans hq55 (fun _ h => Bool.noConfusion h)
    have b65 := hq_rng z57
    have b66 := hq_rng z61
    refine lv_aload_n hx hb dX11_book_51 rfl (lv_at hl 2 rfl) ?_
    refine hp_get (v := .ref (qb)) hx hb hts hown hZ ho58 fl_X11_64 rfl dX11_book_52 ?_
    have pk67 := hF4.keep (fun x7 (hx7 : qb ≤ x7 ∧ x7 < qb + 377) => (hT2.fr hq55 (fun g hg => by unfold hk_gr at hg; simp; omega) x7 (by unfold hk_In; omega)).trans ((o50 x7 (by omega)).trans ((o47 x7 (by omega)).trans (fr41 x7 (by omega)))))
    obtain ⟨⟨bc9, bv9, bl9, hbk9, hb91, hb92, hb93⟩, -⟩ := id pk67
    have hb_bl9 := hq_rng bl9
    refine hp_get (v := .int (bl9)) hx hb hts hown hZ hbk9 fl_X11_87 rfl dX11_book_55 ?_
    have fx68 : V51 (kb + 2) = some (.inr (7, [.int (z11), .int (z12), .ref (kb), .ref (qb), .int (z13), .int (z14), .int (z15), .ref (kb + 3)])) := (hq55.2 (kb + 2) _ ty3 rfl).trans ((o50 (kb + 2) (hq_tne ty3 ty0 (by simp))).trans ((o47 (kb + 2) (hq_tne ty3 ty0 (by simp))).trans ((fr41 (kb + 2) (hq_tne ty3 ty1 (by simp))).trans (ho18))))
    have fx69 : V51 (kb + 3) = some (.inr (9, [.ref (kb + 4), .int (z16)])) := (hq55.2 (kb + 3) _ ty4 rfl).trans ((o50 (kb + 3) (hq_tne ty4 ty0 (by simp))).trans ((o47 (kb + 3) (hq_tne ty4 ty0 (by simp))).trans ((fr41 (kb + 3) (hq_tne ty4 ty1 (by simp))).trans (ho19))))
    have fx70 : V51 (kb + 4) = some (.inl (cs 0, 12, .inl (u17))) := (hq55.2 (kb + 4) _ t2a rfl).trans ((o50 (kb + 4) (hq_tne t2a ty0 (by simp))).trans ((o47 (kb + 4) (hq_tne t2a ty0 (by simp))).trans ((fr41 (kb + 4) (hq_tne t2a ty1 (by simp))).trans (ho20))))
    have pk71 := hp23.keep (fun x7 (hx7 : qb + 2 ≤ x7 ∧ x7 < qb + 377) => (hT2.fr hq55 (fun g hg => by unfold hk_gr at hg; simp; omega) x7 (by unfold hk_In; omega)).trans ((o50 x7 (by omega)).trans ((o47 x7 (by omega)).trans (fr41 x7 (by omega)))))
    have pk72 := hp24.keep ((hq55.2 (qb + 1) _ hyb1 rfl).trans ((o50 (qb + 1) (hq_tne hyb1 ty0 (by simp))).trans ((o47 (qb + 1) (hq_tne hyb1 ty0 (by simp))).trans (fr41 (qb + 1) (hq_tne hyb1 ty1 (by simp)))))) ((hq55.2 (qb + 14) _ hyb14 rfl).trans ((o50 (qb + 14) (hq_tne hyb14 ty0 (by simp))).trans ((o47 (qb + 14) (hq_tne hyb14 ty0 (by simp))).trans (fr41 (qb + 14) (hq_tne hyb14 ty1 (by simp)))))) ((hq55.2 (qb + 76) _ hyb76 rfl).trans ((o50 (qb + 76) (hq_tne hyb76 ty0 (by simp))).trans ((o47 (qb + 76) (hq_tne hyb76 ty0 (by simp))).trans (fr41 (qb + 76) (hq_tne hyb76 ty1 (by simp))))))
    have pk73 := hp25.keep ((hq55.2 (qb) _ hyqb rfl).trans ((o50 (qb) (hq_tne hyqb ty0 (by simp))).trans ((o47 (qb) (hq_tne hyqb ty0 (by simp))).trans (fr41 (qb) (hq_tne hyqb ty1 (by simp))))))
    have fx74 : V51 (kb) = some (.inr (9, [.ref (kb + 1), .int (0)])) := (hq55.2 (kb) _ ty1 rfl).trans ((o50 (kb) (hq_tne ty1 ty0 (by simp))).trans ((o47 (kb) (hq_tne ty1 ty0 (by simp))).trans (ho42)))
    exact hp_iret hx hb hr hlocks hZ ⟨rfl, hP, (fun x8 hne0 hne1 hne2 hne3 hne4 hne5 hne6 => (hx_fg (x := x8) hq55 (by obtain ⟨t9, h91, h92⟩ := hne6; exact ⟨t9, h91, by simp_all⟩)).trans ((o50 x8 hne0).trans ((o47 x8 hne0).trans ((fr41 x8 hne1).trans (fr10 x8 hne2 hne3 hne4 hne5))))), z11, z12, z13, z14, z15, z57, z61, qb, qt, ho58, fx74, fx68, ho62, hx_D.r (by omega) ⟨hF1, hF2, hF3, rfl, rfl, pk67, by omega, by omega⟩, by omega, by omega, ⟨pk71, pk72, pk73⟩, hx_TS.of hP.1 ty4 fx69 fx70⟩ dX11_book_58
  · have c43 : (r8).toInt = (0 : Int) := hq_eqi.mp c43
    obtain ⟨hF1, hF2, hF3⟩ := hx_D.pos hp21 (by omega)
    refine lv_iconst (v := -1) hx hb dX11_book_27 (by decide) ?_
    have hl76 : (-1 : Int32).toInt = -1 := by decide
    have fx77 : V36 (kb + 2) = some (.inr (7, [.int (z11), .int (z12), .ref (kb), .ref (qb), .int (z13), .int (z14), .int (z15), .ref (kb + 3)])) := (fr41 (kb + 2) (hq_tne ty3 ty1 (by simp))).trans (ho18)
    have fx78 : V36 (a) = some (.inr (11, [.ref (kb), .ref (kb + 2), .ref (kb + 5), .ref (kb + 46), .ref (kb + 50), .ref (kb + 62), .ref (kb + 87), .int (c_fs), .ref (qt), .ref (qb)])) := (fr41 (a) (hq_tne ty0 ty1 (by simp))).trans (fx34)
    have fx79 : V36 (kb + 50) = some (.inr (1, [.ref (kb + 51), .ref (kb + 52), .int (e_fd), .ref (kb + 53), .ref (kb + 55), .ref (kb + 57), e_bk, e_an, e_mk, .int (e_sz), .ref (kb + 59), .ref (kb + 60), .ref (kb + 61)])) := (fr41 (kb + 50) (hq_tne ty7 ty1 (by simp))).trans ((fr10 (kb + 50) (hq_tne ty7 ty3 (by simp)) (hq_tne ty7 ty4 (by simp)) (hq_tne ty7 t2a (by simp)) (by omega)).trans (hc2))
    have fx80 : V36 (kb + 3) = some (.inr (9, [.ref (kb + 4), .int (z16)])) := (fr41 (kb + 3) (hq_tne ty4 ty1 (by simp))).trans (ho19)
    have fx81 : V36 (kb + 4) = some (.inl (cs 0, 12, .inl (u17))) := (fr41 (kb + 4) (hq_tne t2a ty1 (by simp))).trans (ho20)
    have hl9 : (-1 : Int32).toInt = -1 := by decide
    have pk82 := hp23.keep (fun x7 (hx7 : qb + 2 ≤ x7 ∧ x7 < qb + 377) => fr41 x7 (by omega))
    have pk83 := hp24.keep (fr41 (qb + 1) (hq_tne hyb1 ty1 (by simp))) (fr41 (qb + 14) (hq_tne hyb14 ty1 (by simp))) (fr41 (qb + 76) (hq_tne hyb76 ty1 (by simp)))
    have pk84 := hp25.keep (fr41 (qb) (hq_tne hyqb ty1 (by simp)))
    exact hp_iret hx hb hr hlocks hZ ⟨rfl, hP, (fun x8 hne0 hne1 hne2 hne3 hne4 hne5 hne6 => (fr41 x8 hne1).trans (fr10 x8 hne2 hne3 hne4 hne5)), z11, z12, z13, z14, z15, c_fs, e_sz, qt, qb, fx78, ho42, fx77, fx79, hx_D.l (by omega) ⟨hF1, hF2, hF3, rfl, rfl, rfl, (fr41 (kb + 59) (hq_tne ty13 ty1 (by simp))).trans (fr10 (kb + 59) (hq_tne ty13 ty3 (by simp)) (hq_tne ty13 ty4 (by simp)) (hq_tne ty13 t2a (by simp)) (by omega)), (fr41 (kb + 60) (hq_tne ty14 ty1 (by simp))).trans (fr10 (kb + 60) (hq_tne ty14 ty3 (by simp)) (hq_tne ty14 ty4 (by simp)) (hq_tne ty14 t2a (by simp)) (by omega)), (fr41 (kb + 61) (hq_tne ty15 ty1 (by simp))).trans (fr10 (kb + 61) (hq_tne ty15 ty3 (by simp)) (hq_tne ty15 ty4 (by simp)) (hq_tne ty15 t2a (by simp)) (by omega))⟩, by omega, by omega, ⟨pk82, pk83, pk84⟩, hx_TS.of hP.1 ty4 fx80 fx81⟩ dX11_book_28

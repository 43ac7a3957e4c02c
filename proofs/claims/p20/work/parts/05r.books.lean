theorem hq_lgp {cs : Nat → ClassId} {G : hq_G} {ok : Nat × Nat → Bool} {V V' : hp_V} {x : Nat} {t : hq_T} (h : hq_P cs G ok V V') (hx : G x = some t) (hg : hq_lg (hq_grp t) = true) (h2 : ∀ b, (ok (20, b) || ok (21, b) || ok (11, b)) = false) : V' x = V x := h.2 x t hx (hq_lgn hg (h2 _))

set_option maxHeartbeats 4000000 in
set_option maxRecDepth 100000 in
theorem t_X11_book_0 (l : Launch) (D : va_G) (cs : Nat → ClassId) (B : Nat) (G : hq_G) (V : hp_V) (n : Nat) (hI : hq_I cs G V) (x : Nat) (h_x : G x = some (15, 0, 0, 0)) {c_tp c_pa c_mk c_sv c_ex c_lr c_fo c_to c_sp : Nat} {c_fs : Int32} (ho_x : V x = some (.inr (11, [.ref (c_tp), .ref (c_pa), .ref (c_mk), .ref (c_sv), .ref (c_ex), .ref (c_lr), .ref (c_fo), .int (c_fs), .ref (c_to), .ref (c_sp)]))) (h_c_tp : G c_tp = some (0, 4000, 0, 0)) (h_c_pa : G c_pa = some (10, 0, 0, 0)) (h_c_mk : G c_mk = some (11, 0, 0, 0)) (h_c_sv : G c_sv = some (12, 0, 0, 0)) (h_c_ex : G c_ex = some (14, 0, 0, 0)) (h_c_lr : G c_lr = some (4, 5, 8, 0)) (h_c_fo : G c_fo = some (2, 0, 60, 0)) (hi_x0 : 0 ≤ c_fs.toInt ∧ c_fs.toInt ≤ 60) {p_b : Nat} {p_z : Int32} (ho_c_tp : V c_tp = some (.inr (9, [.ref (p_b), .int (p_z)]))) (h_p_b : G p_b = some (1, 4000, 0, 0)) (hi_c_tp0 : 0 ≤ p_z.toInt ∧ p_z.toInt ≤ 4000) {q_nm : Nat} {q_fk q_fp q_nx q_tk q_st : Int32} {q_tx q_ou : Value} (ho_c_pa : V c_pa = some (.inr (7, [.int (q_fk), .int (q_fp), q_tx, q_ou, .int (q_nx), .int (q_tk), .int (q_st), .ref (q_nm)]))) (h_q_nm : G q_nm = some (0, 12, 0, 0)) {e_be e_tr e_st e_en e_wo e_ki e_mi e_ta : Nat} {e_fd e_sz : Int32} {e_bk e_an e_mk : Value} (ho_c_ex : V c_ex = some (.inr (1, [.ref (e_be), .ref (e_tr), .int (e_fd), .ref (e_st), .ref (e_en), .ref (e_wo), e_bk, e_an, e_mk, .int (e_sz), .ref (e_ki), .ref (e_mi), .ref (e_ta)]))) (h_e_be : G e_be = some (13, 0, 0, 0)) (h_e_tr : G e_tr = some (13, 0, 0, 0)) (h_e_st : G e_st = some (0, 30, 0, 0)) (h_e_en : G e_en = some (0, 30, 0, 0)) (h_e_wo : G e_wo = some (0, 30, 0, 0)) (h_e_ki : G e_ki = some (2, 8, 2, 0)) (h_e_mi : G e_mi = some (2, 8, 2, 0)) (h_e_ta : G e_ta = some (2, 8, 2, 0)) (hi_c_ex0 : 0 ≤ e_fd.toInt ∧ e_fd.toInt ≤ 1) (hi_c_ex1 : 0 ≤ e_sz.toInt ∧ e_sz.toInt ≤ 2) (h_c_to : G c_to = some (6, 0, 0, 0)) (h_c_sp : G c_sp = some (6, 1, 0, 0)) (hJ : hq_J cs V c_to) : hp_M l yX11_book cX11_book 3 (some .int) ({ frames := 11, cells := 0, slots := 0, locals := 243 }) D cs B V n [.ref (x)] (hp_QI D cs B (fun r V' n' => n = n' ∧ hq_P cs G (fun g => g.1 == 0 || g.1 == 2 || g.1 == 3 || g.1 == 4 || g.1 == 8 || g.1 == 12 || (g.1 == 20 && g.2 == 1) || (g.1 == 21 && g.2 == 1)) V V' ∧ (∃ (c_fs1 : Int32) (c_to1 : Nat) (c_sp1 : Nat), V' x = some (.inr (11, [.ref (c_tp), .ref (c_pa), .ref (c_mk), .ref (c_sv), .ref (c_ex), .ref (c_lr), .ref (c_fo), .int (c_fs1), .ref (c_to1), .ref (c_sp1)])) ∧ (0 ≤ c_fs1.toInt ∧ c_fs1.toInt ≤ 60) ∧ ((c_to1 = c_to ∧ c_sp1 = c_sp ∧ hq_J cs V' c_to) ∨ (c_to1 = c_sp ∧ c_sp1 = c_to ∧ hq_J cs V' c_sp))) ∧ (∃ (p_z1 : Int32), V' c_tp = some (.inr (9, [.ref (p_b), .int (p_z1)])) ∧ (0 ≤ p_z1.toInt ∧ p_z1.toInt ≤ 4000) ∧ (p_z1.toInt = 0)) ∧ (∃ (q_fk1 : Int32) (q_fp1 : Int32) (q_tx1 : Value) (q_ou1 : Value) (q_nx1 : Int32) (q_tk1 : Int32) (q_st1 : Int32), V' c_pa = some (.inr (7, [.int (q_fk1), .int (q_fp1), q_tx1, q_ou1, .int (q_nx1), .int (q_tk1), .int (q_st1), .ref (q_nm)]))) ∧ (∃ (e_sz1 : Int32), V' c_ex = some (.inr (1, [.ref (e_be), .ref (e_tr), .int (e_fd), .ref (e_st), .ref (e_en), .ref (e_wo), e_bk, e_an, e_mk, .int (e_sz1), .ref (e_ki), .ref (e_mi), .ref (e_ta)])) ∧ (0 ≤ e_sz1.toInt ∧ e_sz1.toInt ≤ 2)) ∧ True)) 0 0 := by
  refine hp_walk (R0 := RX11) (by decide) rfl ?_ (Nat.le_of_ble_eq_true rfl)
  intro p e s m below meth c ls hx hb hr hts hown hlocks hin hml hZ hl
  have hP : hq_P cs G (fun g => g.1 == 0 || g.1 == 2 || g.1 == 3 || g.1 == 4 || g.1 == 8 || g.1 == 12 || (g.1 == 20 && g.2 == 1) || (g.1 == 21 && g.2 == 1)) V V := hq_P.rf hI
  have hl : lv_has ls 3 [(0, .ref (x))] := hl
  have hb_c_fs := hq_rng c_fs
  have hb_p_z := hq_rng p_z
  have hb_q_fk := hq_rng q_fk
  have hb_q_fp := hq_rng q_fp
  have hb_q_nx := hq_rng q_nx
  have hb_q_tk := hq_rng q_tk
  have hb_q_st := hq_rng q_st
  have hb_e_fd := hq_rng e_fd
  have hb_e_sz := hq_rng e_sz
  refine lv_aload_n hx hb dX11_book_0 rfl (lv_at hl 0 rfl) ?_
  refine hp_get (v := .ref (c_pa)) hx hb hts hown hZ ho_x fl_X11_21 rfl dX11_book_1 ?_
  refine lv_aload_n hx hb dX11_book_4 rfl (lv_at hl 0 rfl) ?_
  refine hp_get (v := .ref (c_tp)) hx hb hts hown hZ ho_x fl_X11_14 rfl dX11_book_5 ?_
  refine lv_aload_n hx hb dX11_book_8 rfl (lv_at hl 0 rfl) ?_
  refine hp_get (v := .ref (c_sp)) hx hb hts hown hZ ho_x fl_X11_68 rfl dX11_book_9 ?_
  obtain ⟨u16, u17, u18, u19, z20, z21, z22, eV15, hu23, hu24, hu25, hu26, ⟨h27, h28⟩, ⟨h29, h30⟩, h31, h32⟩ := hq_o6 hP.1 h_c_sp
  refine hp_calli (hp_runV (As := [.ref (c_tp), .ref (c_sp)]) (rest := []) hx hb hml hown hts (t_X7_parse_1 l D cs B G  V n hP.1  (c_pa) h_c_pa (c_tp) h_c_tp (c_sp) h_c_sp ho_c_pa h_q_nm eV15 hu23 hu24 hu25 hu26 (by omega) (by omega) (by omega) ) hZ ho_c_pa cv_X11_77 rfl rfl ⟨Nat.le_of_ble_eq_true rfl, Nat.le_of_ble_eq_true rfl⟩ rfl hl.1 rfl (Nat.le_of_ble_eq_true rfl) dX11_book_12 ⟨(Nat.le_of_ble_eq_true rfl), (Nat.le_of_ble_eq_true rfl)⟩) hZ (fun r4 V1 n2 _ _ hw3 hZ => ?_)
  obtain ⟨rfl, hq5, ⟨z7, z8, v9, v10, z11, z12, z13, ho14⟩, ⟨z33, z34, z35, ho36, hi37, hi38, hi39⟩, hr6⟩ := hw3
  have hP := hP.trans hq5 (by intro g h; simp_all)
  have b40 := hq_rng z7
  have b41 := hq_rng z8
  have b42 := hq_rng z11
  have b43 := hq_rng z12
  have b44 := hq_rng z13
  have b45 := hq_rng z33
  have b46 := hq_rng z34
  have b47 := hq_rng z35
  have b48 := hq_rng r4
  have hj1 : r4.toInt = 1 → hq_J cs V1 c_sp := hr6.2
  refine lv_istore_n (lv' := [(1, .int (r4)), (0, .ref (x))]) hx hb dX11_book_15 rfl hl (by decide) rfl (fun ls hl => ?_)
  refine lv_aload_n hx hb dX11_book_16 rfl (lv_at hl 1 rfl) ?_
  have fx49 : V1 (x) = some (.inr (11, [.ref (c_tp), .ref (c_pa), .ref (c_mk), .ref (c_sv), .ref (c_ex), .ref (c_lr), .ref (c_fo), .int (c_fs), .ref (c_to), .ref (c_sp)])) := (hq5.2 (x) _ h_x rfl).trans (ho_x)
  refine hp_get (v := .ref (c_tp)) hx hb hts hown hZ fx49 fl_X11_14 rfl dX11_book_17 ?_
  have fx56 : V1 (c_tp) = some (.inr (9, [.ref (p_b), .int (p_z)])) := (hq5.2 (c_tp) _ h_c_tp rfl).trans (ho_c_tp)
  refine hp_callv (hp_runV (As := []) (rest := []) hx hb hml hown hts (t_X9_clearT l D cs B G  V1 n hP.1  (c_tp) h_c_tp fx56 h_p_b (by omega) ) hZ fx56 cv_X11_81 rfl rfl ⟨Nat.le_of_ble_eq_true rfl, Nat.le_of_ble_eq_true rfl⟩ rfl hl.1 rfl (Nat.le_of_ble_eq_true rfl) dX11_book_20 ⟨(Nat.le_of_ble_eq_true rfl), (Nat.le_of_ble_eq_true rfl)⟩) hZ (fun V50 n51 _ _ hw52 hZ => ?_)
  obtain ⟨rfl, hq54, ⟨z57, ho58, hi59, hi60⟩⟩ := hw52
  have hP := hP.trans hq54 (by intro g h; simp_all)
  have b61 := hq_rng z57
  refine lv_iload_n hx hb dX11_book_23 rfl (lv_at hl 0 rfl) ?_
  refine lv_if_ne (tgt := 29) hx hb dX11_book_24 (by decide) (fun c62 => ?_) (fun c62 => ?_)
  · have c62 : ¬ (r4).toInt = (0 : Int) := fun h9 => c62 (hq_eqi.mpr h9)
    refine lv_aload_n hx hb dX11_book_29 rfl (lv_at hl 1 rfl) ?_
    have fx63 : V50 (x) = some (.inr (11, [.ref (c_tp), .ref (c_pa), .ref (c_mk), .ref (c_sv), .ref (c_ex), .ref (c_lr), .ref (c_fo), .int (c_fs), .ref (c_to), .ref (c_sp)])) := (hq54.2 (x) _ h_x rfl).trans (fx49)
    refine hp_get (v := .ref (c_to)) hx hb hts hown hZ fx63 fl_X11_64 rfl dX11_book_30 ?_
    refine lv_astore_n (lv' := [(2, .ref (c_to)), (1, .int (r4)), (0, .ref (x))]) hx hb dX11_book_33 rfl hl (by decide) rfl (fun ls hl => ?_)
    refine lv_aload_n hx hb dX11_book_34 rfl (lv_at hl 2 rfl) ?_
    refine lv_aload_n hx hb dX11_book_35 rfl (lv_at hl 2 rfl) ?_
    refine hp_get (v := .ref (c_sp)) hx hb hts hown hZ fx63 fl_X11_68 rfl dX11_book_36 ?_
    refine hp_put hx hb hts hown hZ fx63 fp_X11_64 rfl rfl (Nat.le_of_ble_eq_true rfl) dX11_book_39 (fun V64 _ _ e65 o66 hZ => ?_)
    have e65 : V64 (x) = some (.inr (11, [.ref (c_tp), .ref (c_pa), .ref (c_mk), .ref (c_sv), .ref (c_ex), .ref (c_lr), .ref (c_fo), .int (c_fs), .ref (c_sp), .ref (c_sp)])) := e65
    have hP := hP.put h_x e65 o66 (trivial) rfl
    refine lv_aload_n hx hb dX11_book_42 rfl (lv_at hl 2 rfl) ?_
    refine lv_aload_n hx hb dX11_book_43 rfl (lv_at hl 0 rfl) ?_
    refine hp_put hx hb hts hown hZ e65 fp_X11_68 rfl rfl (Nat.le_of_ble_eq_true rfl) dX11_book_44 (fun V67 _ _ e68 o69 hZ => ?_)
    have e68 : V67 (x) = some (.inr (11, [.ref (c_tp), .ref (c_pa), .ref (c_mk), .ref (c_sv), .ref (c_ex), .ref (c_lr), .ref (c_fo), .int (c_fs), .ref (c_sp), .ref (c_to)])) := e68
    have hP := hP.put h_x e68 o69 (trivial) rfl
    refine lv_aload_n hx hb dX11_book_47 rfl (lv_at hl 2 rfl) ?_
    have fx79 : V67 (c_ex) = some (.inr (1, [.ref (e_be), .ref (e_tr), .int (e_fd), .ref (e_st), .ref (e_en), .ref (e_wo), e_bk, e_an, e_mk, .int (e_sz), .ref (e_ki), .ref (e_mi), .ref (e_ta)])) := (o69 (c_ex) (hq_tne h_c_ex h_x (by simp))).trans ((o66 (c_ex) (hq_tne h_c_ex h_x (by simp))).trans ((hq54.2 (c_ex) _ h_c_ex rfl).trans ((hq5.2 (c_ex) _ h_c_ex rfl).trans (ho_c_ex))))
    refine hp_callv (hp_runV (As := []) (rest := []) hx hb hml hown hts (t_X11_forgetAll_1 l D cs B G  V67 n hP.1  (x) h_x e68 h_c_tp h_c_pa h_c_mk h_c_sv h_c_ex h_c_lr h_c_fo h_c_sp h_c_to (by omega) fx79 h_e_be h_e_tr h_e_st h_e_en h_e_wo h_e_ki h_e_mi h_e_ta (by omega) (by omega) ) hZ e68 cv_X11_84 rfl rfl ⟨Nat.le_of_ble_eq_true rfl, Nat.le_of_ble_eq_true rfl⟩ rfl hl.1 rfl (Nat.le_of_ble_eq_true rfl) dX11_book_48 ⟨(Nat.le_of_ble_eq_true rfl), (Nat.le_of_ble_eq_true rfl)⟩) hZ (fun V70 n71 _ _ hw72 hZ => ?_)
    obtain ⟨rfl, hq74, ⟨z76, ho77, hi78⟩, ⟨z80, ho81, hi82⟩⟩ := hw72
    have hP := hP.trans hq74 (by intro g h; simp_all)
    have b83 := hq_rng z76
    have b84 := hq_rng z80
    refine lv_aload_n hx hb dX11_book_51 rfl (lv_at hl 2 rfl) ?_
    refine hp_get (v := .ref (c_sp)) hx hb hts hown hZ ho77 fl_X11_64 rfl dX11_book_52 ?_
    have fx85 : V70 (c_sp) = some (.inr (0, [.ref (u16), .int (z33), .ref (u17), .ref (u18), .int (z34), .ref (u19), .int (z35)])) := (hq74.2 (c_sp) _ h_c_sp rfl).trans ((o69 (c_sp) (hq_tne h_c_sp h_x (by simp))).trans ((o66 (c_sp) (hq_tne h_c_sp h_x (by simp))).trans ((hq54.2 (c_sp) _ h_c_sp rfl).trans (ho36))))
    refine hp_get (v := .int (z35)) hx hb hts hown hZ fx85 fl_X11_87 rfl dX11_book_55 ?_
    have hj3 : hq_J cs V70 c_sp := (hj1 (by omega)).keep hP.1 h_c_sp (fun x t hx hg => (hq_lgp hq74 hx hg (fun _ => rfl)).trans ((o69 x (hq_tne hx h_x (fun e9 => by rw [e9] at hg; cases hg))).trans ((o66 x (hq_tne hx h_x (fun e9 => by rw [e9] at hg; cases hg))).trans (hq_lgp hq54 hx hg (fun _ => rfl)))))
    have fx86 : V70 (c_tp) = some (.inr (9, [.ref (p_b), .int (z57)])) := (hq74.2 (c_tp) _ h_c_tp rfl).trans ((o69 (c_tp) (hq_tne h_c_tp h_x (by simp))).trans ((o66 (c_tp) (hq_tne h_c_tp h_x (by simp))).trans (ho58)))
    have fx87 : V70 (c_pa) = some (.inr (7, [.int (z7), .int (z8), v9, v10, .int (z11), .int (z12), .int (z13), .ref (q_nm)])) := (hq74.2 (c_pa) _ h_c_pa rfl).trans ((o69 (c_pa) (hq_tne h_c_pa h_x (by simp))).trans ((o66 (c_pa) (hq_tne h_c_pa h_x (by simp))).trans ((hq54.2 (c_pa) _ h_c_pa rfl).trans (ho14))))
    exact hp_iret hx hb hr hlocks hZ ⟨rfl, hP, ⟨z76, c_sp, c_to, ho77, by omega, Or.inr ⟨rfl, rfl, hj3⟩⟩, ⟨z57, fx86, by omega, by omega⟩, ⟨z7, z8, (v9), (v10), z11, z12, z13, fx87⟩, ⟨z80, ho81, by omega⟩, trivial⟩ dX11_book_58
  · have c62 : (r4).toInt = (0 : Int) := hq_eqi.mp c62
    refine lv_iconst (v := -1) hx hb dX11_book_27 (by decide) ?_
    have fx88 : V50 (x) = some (.inr (11, [.ref (c_tp), .ref (c_pa), .ref (c_mk), .ref (c_sv), .ref (c_ex), .ref (c_lr), .ref (c_fo), .int (c_fs), .ref (c_to), .ref (c_sp)])) := (hq54.2 (x) _ h_x rfl).trans (fx49)
    have fx89 : V50 (c_pa) = some (.inr (7, [.int (z7), .int (z8), v9, v10, .int (z11), .int (z12), .int (z13), .ref (q_nm)])) := (hq54.2 (c_pa) _ h_c_pa rfl).trans (ho14)
    have fx90 : V50 (c_ex) = some (.inr (1, [.ref (e_be), .ref (e_tr), .int (e_fd), .ref (e_st), .ref (e_en), .ref (e_wo), e_bk, e_an, e_mk, .int (e_sz), .ref (e_ki), .ref (e_mi), .ref (e_ta)])) := (hq54.2 (c_ex) _ h_c_ex rfl).trans ((hq5.2 (c_ex) _ h_c_ex rfl).trans (ho_c_ex))
    exact hp_iret hx hb hr hlocks hZ ⟨rfl, hP, ⟨c_fs, c_to, c_sp, fx88, by omega, Or.inl ⟨rfl, rfl, hJ.keepb hP.1 h_c_to (fun x t hx hg => hP.2 x t hx (by rcases hg with hg | hg | hg <;> simp [hg]))⟩⟩, ⟨z57, ho58, by omega, by omega⟩, ⟨z7, z8, (v9), (v10), z11, z12, z13, fx89⟩, ⟨e_sz, fx90, by omega⟩, trivial⟩ dX11_book_28

set_option maxHeartbeats 4000000 in
set_option maxRecDepth 100000 in
theorem t_X11_book_1 (l : Launch) (D : va_G) (cs : Nat → ClassId) (B : Nat) (G : hq_G) (V : hp_V) (n : Nat) (hI : hq_I cs G V) (x : Nat) (h_x : G x = some (15, 0, 0, 0)) {c_tp c_pa c_mk c_sv c_ex c_lr c_fo c_to c_sp : Nat} {c_fs : Int32} (ho_x : V x = some (.inr (11, [.ref (c_tp), .ref (c_pa), .ref (c_mk), .ref (c_sv), .ref (c_ex), .ref (c_lr), .ref (c_fo), .int (c_fs), .ref (c_to), .ref (c_sp)]))) (h_c_tp : G c_tp = some (0, 4000, 0, 0)) (h_c_pa : G c_pa = some (10, 0, 0, 0)) (h_c_mk : G c_mk = some (11, 0, 0, 0)) (h_c_sv : G c_sv = some (12, 0, 0, 0)) (h_c_ex : G c_ex = some (14, 0, 0, 0)) (h_c_lr : G c_lr = some (4, 5, 8, 0)) (h_c_fo : G c_fo = some (2, 0, 60, 0)) (hi_x0 : 0 ≤ c_fs.toInt ∧ c_fs.toInt ≤ 60) {p_b : Nat} {p_z : Int32} (ho_c_tp : V c_tp = some (.inr (9, [.ref (p_b), .int (p_z)]))) (h_p_b : G p_b = some (1, 4000, 0, 0)) (hi_c_tp0 : 0 ≤ p_z.toInt ∧ p_z.toInt ≤ 4000) {q_nm : Nat} {q_fk q_fp q_nx q_tk q_st : Int32} {q_tx q_ou : Value} (ho_c_pa : V c_pa = some (.inr (7, [.int (q_fk), .int (q_fp), q_tx, q_ou, .int (q_nx), .int (q_tk), .int (q_st), .ref (q_nm)]))) (h_q_nm : G q_nm = some (0, 12, 0, 0)) {e_be e_tr e_st e_en e_wo e_ki e_mi e_ta : Nat} {e_fd e_sz : Int32} {e_bk e_an e_mk : Value} (ho_c_ex : V c_ex = some (.inr (1, [.ref (e_be), .ref (e_tr), .int (e_fd), .ref (e_st), .ref (e_en), .ref (e_wo), e_bk, e_an, e_mk, .int (e_sz), .ref (e_ki), .ref (e_mi), .ref (e_ta)]))) (h_e_be : G e_be = some (13, 0, 0, 0)) (h_e_tr : G e_tr = some (13, 0, 0, 0)) (h_e_st : G e_st = some (0, 30, 0, 0)) (h_e_en : G e_en = some (0, 30, 0, 0)) (h_e_wo : G e_wo = some (0, 30, 0, 0)) (h_e_ki : G e_ki = some (2, 8, 2, 0)) (h_e_mi : G e_mi = some (2, 8, 2, 0)) (h_e_ta : G e_ta = some (2, 8, 2, 0)) (hi_c_ex0 : 0 ≤ e_fd.toInt ∧ e_fd.toInt ≤ 1) (hi_c_ex1 : 0 ≤ e_sz.toInt ∧ e_sz.toInt ≤ 2) (h_c_to : G c_to = some (6, 1, 0, 0)) (h_c_sp : G c_sp = some (6, 0, 0, 0)) (hJ : hq_J cs V c_to) : hp_M l yX11_book cX11_book 3 (some .int) ({ frames := 11, cells := 0, slots := 0, locals := 243 }) D cs B V n [.ref (x)] (hp_QI D cs B (fun r V' n' => n = n' ∧ hq_P cs G (fun g => g.1 == 0 || g.1 == 2 || g.1 == 3 || g.1 == 4 || g.1 == 8 || g.1 == 12 || (g.1 == 20 && g.2 == 0) || (g.1 == 21 && g.2 == 0)) V V' ∧ (∃ (c_fs1 : Int32) (c_to1 : Nat) (c_sp1 : Nat), V' x = some (.inr (11, [.ref (c_tp), .ref (c_pa), .ref (c_mk), .ref (c_sv), .ref (c_ex), .ref (c_lr), .ref (c_fo), .int (c_fs1), .ref (c_to1), .ref (c_sp1)])) ∧ (0 ≤ c_fs1.toInt ∧ c_fs1.toInt ≤ 60) ∧ ((c_to1 = c_to ∧ c_sp1 = c_sp ∧ hq_J cs V' c_to) ∨ (c_to1 = c_sp ∧ c_sp1 = c_to ∧ hq_J cs V' c_sp))) ∧ (∃ (p_z1 : Int32), V' c_tp = some (.inr (9, [.ref (p_b), .int (p_z1)])) ∧ (0 ≤ p_z1.toInt ∧ p_z1.toInt ≤ 4000) ∧ (p_z1.toInt = 0)) ∧ (∃ (q_fk1 : Int32) (q_fp1 : Int32) (q_tx1 : Value) (q_ou1 : Value) (q_nx1 : Int32) (q_tk1 : Int32) (q_st1 : Int32), V' c_pa = some (.inr (7, [.int (q_fk1), .int (q_fp1), q_tx1, q_ou1, .int (q_nx1), .int (q_tk1), .int (q_st1), .ref (q_nm)]))) ∧ (∃ (e_sz1 : Int32), V' c_ex = some (.inr (1, [.ref (e_be), .ref (e_tr), .int (e_fd), .ref (e_st), .ref (e_en), .ref (e_wo), e_bk, e_an, e_mk, .int (e_sz1), .ref (e_ki), .ref (e_mi), .ref (e_ta)])) ∧ (0 ≤ e_sz1.toInt ∧ e_sz1.toInt ≤ 2)) ∧ True)) 0 0 := by
  refine hp_walk (R0 := RX11) (by decide) rfl ?_ (Nat.le_of_ble_eq_true rfl)
  intro p e s m below meth c ls hx hb hr hts hown hlocks hin hml hZ hl
  have hP : hq_P cs G (fun g => g.1 == 0 || g.1 == 2 || g.1 == 3 || g.1 == 4 || g.1 == 8 || g.1 == 12 || (g.1 == 20 && g.2 == 0) || (g.1 == 21 && g.2 == 0)) V V := hq_P.rf hI
  have hl : lv_has ls 3 [(0, .ref (x))] := hl
  have hb_c_fs := hq_rng c_fs
  have hb_p_z := hq_rng p_z
  have hb_q_fk := hq_rng q_fk
  have hb_q_fp := hq_rng q_fp
  have hb_q_nx := hq_rng q_nx
  have hb_q_tk := hq_rng q_tk
  have hb_q_st := hq_rng q_st
  have hb_e_fd := hq_rng e_fd
  have hb_e_sz := hq_rng e_sz
  refine lv_aload_n hx hb dX11_book_0 rfl (lv_at hl 0 rfl) ?_
  refine hp_get (v := .ref (c_pa)) hx hb hts hown hZ ho_x fl_X11_21 rfl dX11_book_1 ?_
  refine lv_aload_n hx hb dX11_book_4 rfl (lv_at hl 0 rfl) ?_
  refine hp_get (v := .ref (c_tp)) hx hb hts hown hZ ho_x fl_X11_14 rfl dX11_book_5 ?_
  refine lv_aload_n hx hb dX11_book_8 rfl (lv_at hl 0 rfl) ?_
  refine hp_get (v := .ref (c_sp)) hx hb hts hown hZ ho_x fl_X11_68 rfl dX11_book_9 ?_
  obtain ⟨u16, u17, u18, u19, z20, z21, z22, eV15, hu23, hu24, hu25, hu26, ⟨h27, h28⟩, ⟨h29, h30⟩, h31, h32⟩ := hq_o6 hP.1 h_c_sp
  refine hp_calli (hp_runV (As := [.ref (c_tp), .ref (c_sp)]) (rest := []) hx hb hml hown hts (t_X7_parse_0 l D cs B G  V n hP.1  (c_pa) h_c_pa (c_tp) h_c_tp (c_sp) h_c_sp ho_c_pa h_q_nm eV15 hu23 hu24 hu25 hu26 (by omega) (by omega) (by omega) ) hZ ho_c_pa cv_X11_77 rfl rfl ⟨Nat.le_of_ble_eq_true rfl, Nat.le_of_ble_eq_true rfl⟩ rfl hl.1 rfl (Nat.le_of_ble_eq_true rfl) dX11_book_12 ⟨(Nat.le_of_ble_eq_true rfl), (Nat.le_of_ble_eq_true rfl)⟩) hZ (fun r4 V1 n2 _ _ hw3 hZ => ?_)
  obtain ⟨rfl, hq5, ⟨z7, z8, v9, v10, z11, z12, z13, ho14⟩, ⟨z33, z34, z35, ho36, hi37, hi38, hi39⟩, hr6⟩ := hw3
  have hP := hP.trans hq5 (by intro g h; simp_all)
  have b40 := hq_rng z7
  have b41 := hq_rng z8
  have b42 := hq_rng z11
  have b43 := hq_rng z12
  have b44 := hq_rng z13
  have b45 := hq_rng z33
  have b46 := hq_rng z34
  have b47 := hq_rng z35
  have b48 := hq_rng r4
  have hj1 : r4.toInt = 1 → hq_J cs V1 c_sp := hr6.2
  refine lv_istore_n (lv' := [(1, .int (r4)), (0, .ref (x))]) hx hb dX11_book_15 rfl hl (by decide) rfl (fun ls hl => ?_)
  refine lv_aload_n hx hb dX11_book_16 rfl (lv_at hl 1 rfl) ?_
  have fx49 : V1 (x) = some (.inr (11, [.ref (c_tp), .ref (c_pa), .ref (c_mk), .ref (c_sv), .ref (c_ex), .ref (c_lr), .ref (c_fo), .int (c_fs), .ref (c_to), .ref (c_sp)])) := (hq5.2 (x) _ h_x rfl).trans (ho_x)
  refine hp_get (v := .ref (c_tp)) hx hb hts hown hZ fx49 fl_X11_14 rfl dX11_book_17 ?_
  have fx56 : V1 (c_tp) = some (.inr (9, [.ref (p_b), .int (p_z)])) := (hq5.2 (c_tp) _ h_c_tp rfl).trans (ho_c_tp)
  refine hp_callv (hp_runV (As := []) (rest := []) hx hb hml hown hts (t_X9_clearT l D cs B G  V1 n hP.1  (c_tp) h_c_tp fx56 h_p_b (by omega) ) hZ fx56 cv_X11_81 rfl rfl ⟨Nat.le_of_ble_eq_true rfl, Nat.le_of_ble_eq_true rfl⟩ rfl hl.1 rfl (Nat.le_of_ble_eq_true rfl) dX11_book_20 ⟨(Nat.le_of_ble_eq_true rfl), (Nat.le_of_ble_eq_true rfl)⟩) hZ (fun V50 n51 _ _ hw52 hZ => ?_)
  obtain ⟨rfl, hq54, ⟨z57, ho58, hi59, hi60⟩⟩ := hw52
  have hP := hP.trans hq54 (by intro g h; simp_all)
  have b61 := hq_rng z57
  refine lv_iload_n hx hb dX11_book_23 rfl (lv_at hl 0 rfl) ?_
  refine lv_if_ne (tgt := 29) hx hb dX11_book_24 (by decide) (fun c62 => ?_) (fun c62 => ?_)
  · have c62 : ¬ (r4).toInt = (0 : Int) := fun h9 => c62 (hq_eqi.mpr h9)
    refine lv_aload_n hx hb dX11_book_29 rfl (lv_at hl 1 rfl) ?_
    have fx63 : V50 (x) = some (.inr (11, [.ref (c_tp), .ref (c_pa), .ref (c_mk), .ref (c_sv), .ref (c_ex), .ref (c_lr), .ref (c_fo), .int (c_fs), .ref (c_to), .ref (c_sp)])) := (hq54.2 (x) _ h_x rfl).trans (fx49)
    refine hp_get (v := .ref (c_to)) hx hb hts hown hZ fx63 fl_X11_64 rfl dX11_book_30 ?_
    refine lv_astore_n (lv' := [(2, .ref (c_to)), (1, .int (r4)), (0, .ref (x))]) hx hb dX11_book_33 rfl hl (by decide) rfl (fun ls hl => ?_)
    refine lv_aload_n hx hb dX11_book_34 rfl (lv_at hl 2 rfl) ?_
    refine lv_aload_n hx hb dX11_book_35 rfl (lv_at hl 2 rfl) ?_
    refine hp_get (v := .ref (c_sp)) hx hb hts hown hZ fx63 fl_X11_68 rfl dX11_book_36 ?_
    refine hp_put hx hb hts hown hZ fx63 fp_X11_64 rfl rfl (Nat.le_of_ble_eq_true rfl) dX11_book_39 (fun V64 _ _ e65 o66 hZ => ?_)
    have e65 : V64 (x) = some (.inr (11, [.ref (c_tp), .ref (c_pa), .ref (c_mk), .ref (c_sv), .ref (c_ex), .ref (c_lr), .ref (c_fo), .int (c_fs), .ref (c_sp), .ref (c_sp)])) := e65
    have hP := hP.put h_x e65 o66 (trivial) rfl
    refine lv_aload_n hx hb dX11_book_42 rfl (lv_at hl 2 rfl) ?_
    refine lv_aload_n hx hb dX11_book_43 rfl (lv_at hl 0 rfl) ?_
    refine hp_put hx hb hts hown hZ e65 fp_X11_68 rfl rfl (Nat.le_of_ble_eq_true rfl) dX11_book_44 (fun V67 _ _ e68 o69 hZ => ?_)
    have e68 : V67 (x) = some (.inr (11, [.ref (c_tp), .ref (c_pa), .ref (c_mk), .ref (c_sv), .ref (c_ex), .ref (c_lr), .ref (c_fo), .int (c_fs), .ref (c_sp), .ref (c_to)])) := e68
    have hP := hP.put h_x e68 o69 (trivial) rfl
    refine lv_aload_n hx hb dX11_book_47 rfl (lv_at hl 2 rfl) ?_
    have fx79 : V67 (c_ex) = some (.inr (1, [.ref (e_be), .ref (e_tr), .int (e_fd), .ref (e_st), .ref (e_en), .ref (e_wo), e_bk, e_an, e_mk, .int (e_sz), .ref (e_ki), .ref (e_mi), .ref (e_ta)])) := (o69 (c_ex) (hq_tne h_c_ex h_x (by simp))).trans ((o66 (c_ex) (hq_tne h_c_ex h_x (by simp))).trans ((hq54.2 (c_ex) _ h_c_ex rfl).trans ((hq5.2 (c_ex) _ h_c_ex rfl).trans (ho_c_ex))))
    refine hp_callv (hp_runV (As := []) (rest := []) hx hb hml hown hts (t_X11_forgetAll_0 l D cs B G  V67 n hP.1  (x) h_x e68 h_c_tp h_c_pa h_c_mk h_c_sv h_c_ex h_c_lr h_c_fo h_c_sp h_c_to (by omega) fx79 h_e_be h_e_tr h_e_st h_e_en h_e_wo h_e_ki h_e_mi h_e_ta (by omega) (by omega) ) hZ e68 cv_X11_84 rfl rfl ⟨Nat.le_of_ble_eq_true rfl, Nat.le_of_ble_eq_true rfl⟩ rfl hl.1 rfl (Nat.le_of_ble_eq_true rfl) dX11_book_48 ⟨(Nat.le_of_ble_eq_true rfl), (Nat.le_of_ble_eq_true rfl)⟩) hZ (fun V70 n71 _ _ hw72 hZ => ?_)
    obtain ⟨rfl, hq74, ⟨z76, ho77, hi78⟩, ⟨z80, ho81, hi82⟩⟩ := hw72
    have hP := hP.trans hq74 (by intro g h; simp_all)
    have b83 := hq_rng z76
    have b84 := hq_rng z80
    refine lv_aload_n hx hb dX11_book_51 rfl (lv_at hl 2 rfl) ?_
    refine hp_get (v := .ref (c_sp)) hx hb hts hown hZ ho77 fl_X11_64 rfl dX11_book_52 ?_
    have fx85 : V70 (c_sp) = some (.inr (0, [.ref (u16), .int (z33), .ref (u17), .ref (u18), .int (z34), .ref (u19), .int (z35)])) := (hq74.2 (c_sp) _ h_c_sp rfl).trans ((o69 (c_sp) (hq_tne h_c_sp h_x (by simp))).trans ((o66 (c_sp) (hq_tne h_c_sp h_x (by simp))).trans ((hq54.2 (c_sp) _ h_c_sp rfl).trans (ho36))))
    refine hp_get (v := .int (z35)) hx hb hts hown hZ fx85 fl_X11_87 rfl dX11_book_55 ?_
    have hj3 : hq_J cs V70 c_sp := (hj1 (by omega)).keep hP.1 h_c_sp (fun x t hx hg => (hq_lgp hq74 hx hg (fun _ => rfl)).trans ((o69 x (hq_tne hx h_x (fun e9 => by rw [e9] at hg; cases hg))).trans ((o66 x (hq_tne hx h_x (fun e9 => by rw [e9] at hg; cases hg))).trans (hq_lgp hq54 hx hg (fun _ => rfl)))))
    have fx86 : V70 (c_tp) = some (.inr (9, [.ref (p_b), .int (z57)])) := (hq74.2 (c_tp) _ h_c_tp rfl).trans ((o69 (c_tp) (hq_tne h_c_tp h_x (by simp))).trans ((o66 (c_tp) (hq_tne h_c_tp h_x (by simp))).trans (ho58)))
    have fx87 : V70 (c_pa) = some (.inr (7, [.int (z7), .int (z8), v9, v10, .int (z11), .int (z12), .int (z13), .ref (q_nm)])) := (hq74.2 (c_pa) _ h_c_pa rfl).trans ((o69 (c_pa) (hq_tne h_c_pa h_x (by simp))).trans ((o66 (c_pa) (hq_tne h_c_pa h_x (by simp))).trans ((hq54.2 (c_pa) _ h_c_pa rfl).trans (ho14))))
    exact hp_iret hx hb hr hlocks hZ ⟨rfl, hP, ⟨z76, c_sp, c_to, ho77, by omega, Or.inr ⟨rfl, rfl, hj3⟩⟩, ⟨z57, fx86, by omega, by omega⟩, ⟨z7, z8, (v9), (v10), z11, z12, z13, fx87⟩, ⟨z80, ho81, by omega⟩, trivial⟩ dX11_book_58
  · have c62 : (r4).toInt = (0 : Int) := hq_eqi.mp c62
    refine lv_iconst (v := -1) hx hb dX11_book_27 (by decide) ?_
    have fx88 : V50 (x) = some (.inr (11, [.ref (c_tp), .ref (c_pa), .ref (c_mk), .ref (c_sv), .ref (c_ex), .ref (c_lr), .ref (c_fo), .int (c_fs), .ref (c_to), .ref (c_sp)])) := (hq54.2 (x) _ h_x rfl).trans (fx49)
    have fx89 : V50 (c_pa) = some (.inr (7, [.int (z7), .int (z8), v9, v10, .int (z11), .int (z12), .int (z13), .ref (q_nm)])) := (hq54.2 (c_pa) _ h_c_pa rfl).trans (ho14)
    have fx90 : V50 (c_ex) = some (.inr (1, [.ref (e_be), .ref (e_tr), .int (e_fd), .ref (e_st), .ref (e_en), .ref (e_wo), e_bk, e_an, e_mk, .int (e_sz), .ref (e_ki), .ref (e_mi), .ref (e_ta)])) := (hq54.2 (c_ex) _ h_c_ex rfl).trans ((hq5.2 (c_ex) _ h_c_ex rfl).trans (ho_c_ex))
    exact hp_iret hx hb hr hlocks hZ ⟨rfl, hP, ⟨c_fs, c_to, c_sp, fx88, by omega, Or.inl ⟨rfl, rfl, hJ.keepb hP.1 h_c_to (fun x t hx hg => hP.2 x t hx (by rcases hg with hg | hg | hg <;> simp [hg]))⟩⟩, ⟨z57, ho58, by omega, by omega⟩, ⟨z7, z8, (v9), (v10), z11, z12, z13, fx89⟩, ⟨e_sz, fx90, by omega⟩, trivial⟩ dX11_book_28

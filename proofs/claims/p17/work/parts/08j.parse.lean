set_option maxHeartbeats 4000000 in
set_option maxRecDepth 100000 in
theorem x_parse (l : Launch) (D : va_G) (cs : Nat → ClassId) (B : Nat) (G : hq_G) (V : hp_V) (n : Nat) (hI : hq_I cs G V) (kb : Nat) (qb : Nat) (w : sp_W) (bb : Nat) (ptx : Value) (pou : Value) (fk : Int32) (fp : Int32) (nx : Int32) (tk : Int32) (st : Int32) (nz : Int32) (nf : Nat → Int32) (vf : Nat → Int32) (hy0 : G (kb) = some (0, 4000, 0, 0)) (hy1 : G (kb + 1) = some (1, 4000, 0, 0)) (hy2 : G (kb + 2) = some (10, 0, 0, 0)) (hy3 : G (kb + 3) = some (0, 12, 0, 0)) (hy4 : G (kb + 4) = some (1, 12, 0, 0)) (hy5 : G (qb) = some (6, bb, 0, 0)) (hy6 : G (qb + 1) = some (4, 7, 6, 0)) (hy7 : G (qb + 14) = some (4, 7, 30, 0)) (hy8 : G (qb + 75) = some (2, 3, 30, 0)) (hy9 : G (qb + 76) = some (4, 6, 60, bb)) (hc0 : V (kb + 2) = some (.inr (7, [.int (fk), .int (fp), ptx, pou, .int (nx), .int (tk), .int (st), .ref (kb + 3)]))) (hc1 : V (kb + 3) = some (.inr (9, [.ref (kb + 3 + 1), .int (nz)]))) (hc2 : V (kb + 4) = some (.inl (cs 0, 12, .inl (nf)))) (hc3 : V (qb + 75) = some (.inl (cs 1, 30, .inl (vf)))) (hp0 : hx_TP cs V kb w) (hp1 : hx_BS cs V qb) (hp2 : hx_SK cs V qb) (hq : kb + 88 ≤ qb) (hBT : hx_BT G qb bb) (hBK0 : hx_BK0 V qb) : hp_M l yX7_parse cX7_parse 5 (some .boolean) ({ frames := 10, cells := 0, slots := 0, locals := 219 }) D cs B V n [.ref (kb + 2), .ref (kb), .ref (qb)] (hp_QI D cs B (fun r V' n' => n = n' ∧ hq_P cs G (fun _ => true) V V' ∧ (∀ x, x ≠ kb + 2 → x ≠ kb + 3 → x ≠ kb + 4 → (x < qb ∨ qb + 377 ≤ x) → V' x = V x) ∧ (∃ fk1 : Int32, ∃ fp1 : Int32, ∃ nx1 : Int32, ∃ tk1 : Int32, ∃ st1 : Int32, ∃ nz1 : Int32, ∃ nf1 : Nat → Int32, V' (kb + 2) = some (.inr (7, [.int (fk1), .int (fp1), .ref (kb), .ref (qb), .int (nx1), .int (tk1), .int (st1), .ref (kb + 3)])) ∧ V' (kb + 3) = some (.inr (9, [.ref (kb + 3 + 1), .int (nz1)])) ∧ V' (kb + 4) = some (.inl (cs 0, 12, .inl (nf1))) ∧ (hx_D (r.toInt = 0) (hx_F w (sp_prs w 9000 0 ([], [], [], [])).1 (sp_prs w 9000 0 ([], [], [], [])).2.1 fk1 fp1) ((sp_prs w 9000 0 ([], [], [], [])).1 = 0 ∧ fk1.toInt = 0 ∧ fp1.toInt = -1 ∧ hx_BK cs V' qb w (sp_prs w 9000 0 ([], [], [], [])).2.2)) ∧ (r.toInt = 0 ∨ r.toInt = 1) ∧ (hx_SK cs V' qb) ∧ (hx_BS cs V' qb) ∧ (hx_BK0 V' qb)))) 0 0 := by
  refine hp_walk (R0 := RX7) (by decide) rfl ?_ (Nat.le_of_ble_eq_true rfl)
  intro p e s m below meth c ls hx hb hr hts hown hlocks hin hml hZ hl
  have hP : hq_P cs G (fun _ => true) V V := hq_P.rf hI
  have hl : lv_has ls 5 [(0, .ref (kb + 2)), (1, .ref (kb)), (2, .ref (qb))] := hl
  have hb_fk := hq_rng fk
  have hb_fp := hq_rng fp
  have hb_nx := hq_rng nx
  have hb_tk := hq_rng tk
  have hb_st := hq_rng st
  have hb_nz := hq_rng nz
  have hf_2 := hq_rgB hI hy4 hc2
  have hf_3 := hq_rg2 hI hy8 hc3
  have hz9 := hx_TP.size hp0
  obtain ⟨⟨g1, hg1, hr1⟩, ⟨g2, hg2, hr2⟩, ⟨g3, hg3, hr3⟩⟩ := id hp1
  obtain ⟨bc, bv, bl, hbk0, hbk1⟩ := hBK0
  have hb_bc := hq_rng bc
  have hb_bv := hq_rng bv
  have hb_bl := hq_rng bl
  refine lv_aload_n hx hb dX7_parse_0 rfl (lv_at hl 0 rfl) ?_
  refine lv_aload_n hx hb dX7_parse_1 rfl (lv_at hl 1 rfl) ?_
  refine hp_put hx hb hts hown hZ hc0 fp_X7_27 rfl rfl (Nat.le_of_ble_eq_true rfl) dX7_parse_2 (fun V1 _ _ e2 o3 hZ => ?_)
  have e2 : V1 (kb + 2) = some (.inr (7, [.int (fk), .int (fp), .ref (kb), pou, .int (nx), .int (tk), .int (st), .ref (kb + 3)])) := e2
  have hP := hP.put hy2 e2 o3 (trivial) rfl
  refine lv_aload_n hx hb dX7_parse_5 rfl (lv_at hl 0 rfl) ?_
  refine lv_aload_n hx hb dX7_parse_6 rfl (lv_at hl 2 rfl) ?_
  refine hp_put hx hb hts hown hZ e2 fp_X7_30 rfl rfl (Nat.le_of_ble_eq_true rfl) dX7_parse_7 (fun V4 _ _ e5 o6 hZ => ?_)
  have e5 : V4 (kb + 2) = some (.inr (7, [.int (fk), .int (fp), .ref (kb), .ref (qb), .int (nx), .int (tk), .int (st), .ref (kb + 3)])) := e5
  have hP := hP.put hy2 e5 o6 (trivial) rfl
  refine lv_aload_n hx hb dX7_parse_10 rfl (lv_at hl 0 rfl) ?_
  refine hp_get (v := .ref (qb)) hx hb hts hown hZ e5 fl_X7_30 rfl dX7_parse_11 ?_
  have fx7 : V4 (qb) = some (.inr (0, [.ref (qb + 1), .int (bc), .ref (qb + 14), .ref (qb + 75), .int (bv), .ref (qb + 76), .int (bl)])) := (o6 (qb) (hq_tne hy5 hy2 (by simp))).trans ((o3 (qb) (hq_tne hy5 hy2 (by simp))).trans (hbk0))
  refine hp_callv (hp_runV (As := []) (rest := []) hx hb hml hown hts (x_clearB l D cs B G V4 n hP.1 (qb) (bb) (bc) (bv) (bl) hy5 hy6 hy7 hy8 hy9 fx7  (by omega)) hZ fx7 cv_X7_34 rfl rfl ⟨Nat.le_of_ble_eq_true rfl, Nat.le_of_ble_eq_true rfl⟩ rfl hl.1 rfl (Nat.le_of_ble_eq_true rfl) dX7_parse_14 ⟨(Nat.le_of_ble_eq_true rfl), (Nat.le_of_ble_eq_true rfl)⟩) hZ (fun V8 n9 _ _ hw10 hZ => ?_)
  obtain ⟨rfl, hq12, fr13, ho14⟩ := hw10
  have hP := hP.trans hq12 (fun _ h => Bool.noConfusion h)
  refine lv_aload_n hx hb dX7_parse_17 rfl (lv_at hl 0 rfl) ?_
  refine lv_iconst (v := 0) hx hb dX7_parse_18 (by decide) ?_
  have fx15 : V8 (kb + 2) = some (.inr (7, [.int (fk), .int (fp), .ref (kb), .ref (qb), .int (nx), .int (tk), .int (st), .ref (kb + 3)])) := (fr13 (kb + 2) (hq_tne hy2 hy5 (by simp))).trans (e5)
  refine hp_put hx hb hts hown hZ fx15 fp_X7_9 rfl rfl (Nat.le_of_ble_eq_true rfl) dX7_parse_19 (fun V16 _ _ e17 o18 hZ => ?_)
  have e17 : V16 (kb + 2) = some (.inr (7, [.int (0), .int (fp), .ref (kb), .ref (qb), .int (nx), .int (tk), .int (st), .ref (kb + 3)])) := e17
  have hP := hP.put hy2 e17 o18 (trivial) rfl
  refine lv_aload_n hx hb dX7_parse_22 rfl (lv_at hl 0 rfl) ?_
  refine lv_iconst (v := -1) hx hb dX7_parse_23 (by decide) ?_
  refine hp_put hx hb hts hown hZ e17 fp_X7_15 rfl rfl (Nat.le_of_ble_eq_true rfl) dX7_parse_24 (fun V19 _ _ e20 o21 hZ => ?_)
  have e20 : V19 (kb + 2) = some (.inr (7, [.int (0), .int (-1), .ref (kb), .ref (qb), .int (nx), .int (tk), .int (st), .ref (kb + 3)])) := e20
  have hP := hP.put hy2 e20 o21 (trivial) rfl
  refine lv_aload_n hx hb dX7_parse_27 rfl (lv_at hl 0 rfl) ?_
  refine lv_iconst (v := 0) hx hb dX7_parse_28 (by decide) ?_
  refine hp_put hx hb hts hown hZ e20 fp_X7_39 rfl rfl (Nat.le_of_ble_eq_true rfl) dX7_parse_29 (fun V22 _ _ e23 o24 hZ => ?_)
  have e23 : V22 (kb + 2) = some (.inr (7, [.int (0), .int (-1), .ref (kb), .ref (qb), .int (0), .int (tk), .int (st), .ref (kb + 3)])) := e23
  have hP := hP.put hy2 e23 o24 (trivial) rfl
  refine lv_aload_n hx hb dX7_parse_32 rfl (lv_at hl 0 rfl) ?_
  have hl25 : (0 : Int32).toInt = 0 := by decide
  have hl26 : (-1 : Int32).toInt = -1 := by decide
  have hl27 : (0 : Int32).toInt = 0 := by decide
  have pk28 := hp0.keep ((o24 (kb) (hq_tne hy0 hy2 (by simp))).trans ((o21 (kb) (hq_tne hy0 hy2 (by simp))).trans ((o18 (kb) (hq_tne hy0 hy2 (by simp))).trans ((fr13 (kb) (hq_tne hy0 hy5 (by simp))).trans ((o6 (kb) (hq_tne hy0 hy2 (by simp))).trans (o3 (kb) (hq_tne hy0 hy2 (by simp)))))))) ((o24 (kb + 1) (hq_tne hy1 hy2 (by simp))).trans ((o21 (kb + 1) (hq_tne hy1 hy2 (by simp))).trans ((o18 (kb + 1) (hq_tne hy1 hy2 (by simp))).trans ((fr13 (kb + 1) (hq_tne hy1 hy5 (by simp))).trans ((o6 (kb + 1) (hq_tne hy1 hy2 (by simp))).trans (o3 (kb + 1) (hq_tne hy1 hy2 (by simp))))))))
  refine hp_callv (hp_runV (As := []) (rest := []) hx hb hml hown hts (x_step l D cs B G V22 n hP.1 (kb) (qb) (w) (0) (0) (-1) (0) (tk) (st) hy0 hy1 hy2 e23 pk28 rfl ⟨show (0 : Int) ≤ 0 by decide, show (0 : Int) ≤ w.2 by omega⟩) hZ e23 cv_X7_42 rfl rfl ⟨Nat.le_of_ble_eq_true rfl, Nat.le_of_ble_eq_true rfl⟩ rfl hl.1 rfl (Nat.le_of_ble_eq_true rfl) dX7_parse_33 ⟨(Nat.le_of_ble_eq_true rfl), (Nat.le_of_ble_eq_true rfl)⟩) hZ (fun V29 n30 _ _ hw31 hZ => ?_)
  obtain ⟨rfl, hq33, fr34, z35, z36, z37, ho38, hp39⟩ := hw31
  have b40 := hq_rng z35
  have b41 := hq_rng z36
  have b42 := hq_rng z37
  have hP := hP.trans hq33 (fun _ h => Bool.noConfusion h)
  obtain ⟨b43, b44, b45, b46⟩ := id hp39
  refine lv_iconst (v := 1) hx hb dX7_parse_36 (by decide) ?_
  refine lv_istore_n (lv' := [(3, .int (1)), (0, .ref (kb + 2)), (1, .ref (kb)), (2, .ref (qb))]) hx hb dX7_parse_37 rfl hl (by decide) rfl (fun ls hl => ?_)
  have hs0 := sp_tok (w := w) (j := 0) (by assumption)
  refine lv_iconst (v := 0) hx hb dX7_parse_38 (by decide) ?_
  refine lv_istore (lv' := [(4, .int (0)), (3, .int (1)), (0, .ref (kb + 2)), (1, .ref (kb)), (2, .ref (qb))]) hx hb dX7_parse_39 hl (by decide) rfl (fun ls hl => ?_)
  have fx48 : V29 (kb + 3) = some (.inr (9, [.ref (kb + 3 + 1), .int (nz)])) := (fr34 (kb + 3) (hq_tne hy3 hy2 (by simp))).trans ((o24 (kb + 3) (hq_tne hy3 hy2 (by simp))).trans ((o21 (kb + 3) (hq_tne hy3 hy2 (by simp))).trans ((o18 (kb + 3) (hq_tne hy3 hy2 (by simp))).trans ((fr13 (kb + 3) (hq_tne hy3 hy5 (by simp))).trans ((o6 (kb + 3) (hq_tne hy3 hy2 (by simp))).trans ((o3 (kb + 3) (hq_tne hy3 hy2 (by simp))).trans (hc1)))))))
  have fx50 : V29 (kb + 4) = some (.inl (cs 0, 12, .inl (nf))) := (fr34 (kb + 4) (hq_tne hy4 hy2 (by simp))).trans ((o24 (kb + 4) (hq_tne hy4 hy2 (by simp))).trans ((o21 (kb + 4) (hq_tne hy4 hy2 (by simp))).trans ((o18 (kb + 4) (hq_tne hy4 hy2 (by simp))).trans ((fr13 (kb + 4) (hq_tne hy4 hy5 (by simp))).trans ((o6 (kb + 4) (hq_tne hy4 hy2 (by simp))).trans ((o3 (kb + 4) (hq_tne hy4 hy2 (by simp))).trans (hc2)))))))
  have fx52 : V29 (qb) = some (.inr (0, [.ref (qb + 1), .int (0), .ref (qb + 14), .ref (qb + 75), .int (0), .ref (qb + 76), .int (0)])) := (fr34 (qb) (hq_tne hy5 hy2 (by simp))).trans ((o24 (qb) (hq_tne hy5 hy2 (by simp))).trans ((o21 (qb) (hq_tne hy5 hy2 (by simp))).trans ((o18 (qb) (hq_tne hy5 hy2 (by simp))).trans (ho14))))
  have fx54 : V29 (qb + 75) = some (.inl (cs 1, 30, .inl (vf))) := (fr34 (qb + 75) (hq_tne hy8 hy2 (by simp))).trans ((o24 (qb + 75) (hq_tne hy8 hy2 (by simp))).trans ((o21 (qb + 75) (hq_tne hy8 hy2 (by simp))).trans ((o18 (qb + 75) (hq_tne hy8 hy2 (by simp))).trans ((fr13 (qb + 75) (hq_tne hy8 hy5 (by simp))).trans ((o6 (qb + 75) (hq_tne hy8 hy2 (by simp))).trans ((o3 (qb + 75) (hq_tne hy8 hy2 (by simp))).trans (hc3)))))))
  have pk56 := pk28.keep (fr34 (kb) (hq_tne hy0 hy2 (by simp))) (fr34 (kb + 1) (hq_tne hy1 hy2 (by simp)))
  have pk58 := hp1.keep ((fr34 (qb + 1) (hq_tne hy6 hy2 (by simp))).trans ((o24 (qb + 1) (hq_tne hy6 hy2 (by simp))).trans ((o21 (qb + 1) (hq_tne hy6 hy2 (by simp))).trans ((o18 (qb + 1) (hq_tne hy6 hy2 (by simp))).trans ((fr13 (qb + 1) (hq_tne hy6 hy5 (by simp))).trans ((o6 (qb + 1) (hq_tne hy6 hy2 (by simp))).trans (o3 (qb + 1) (hq_tne hy6 hy2 (by simp))))))))) ((fr34 (qb + 14) (hq_tne hy7 hy2 (by simp))).trans ((o24 (qb + 14) (hq_tne hy7 hy2 (by simp))).trans ((o21 (qb + 14) (hq_tne hy7 hy2 (by simp))).trans ((o18 (qb + 14) (hq_tne hy7 hy2 (by simp))).trans ((fr13 (qb + 14) (hq_tne hy7 hy5 (by simp))).trans ((o6 (qb + 14) (hq_tne hy7 hy2 (by simp))).trans (o3 (qb + 14) (hq_tne hy7 hy2 (by simp))))))))) ((fr34 (qb + 76) (hq_tne hy9 hy2 (by simp))).trans ((o24 (qb + 76) (hq_tne hy9 hy2 (by simp))).trans ((o21 (qb + 76) (hq_tne hy9 hy2 (by simp))).trans ((o18 (qb + 76) (hq_tne hy9 hy2 (by simp))).trans ((fr13 (qb + 76) (hq_tne hy9 hy5 (by simp))).trans ((o6 (qb + 76) (hq_tne hy9 hy2 (by simp))).trans (o3 (qb + 76) (hq_tne hy9 hy2 (by simp)))))))))
  have pk60 := hp2.keep (fun x7 (hx7 : qb + 2 ≤ x7 ∧ x7 < qb + 377) => (fr34 x7 (by omega)).trans ((o24 x7 (by omega)).trans ((o21 x7 (by omega)).trans ((o18 x7 (by omega)).trans ((fr13 x7 (by omega)).trans ((o6 x7 (by omega)).trans (o3 x7 (by omega))))))))
  have hl65 : (0 : Int32).toInt = 0 := by decide
  have hl66 : (-1 : Int32).toInt = -1 := by decide
  have hl67 : (0 : Int32).toInt = 0 := by decide
  have hl68 : (0 : Int32).toInt = 0 := by decide
  have hl69 : (0 : Int32).toInt = 0 := by decide
  have hl70 : (0 : Int32).toInt = 0 := by decide
  suffices lp41 : ∀ (k9 : Nat) (V9 : hp_V) (H9 : Heap) (locs9 : List Loc) (ls : Array Slot) (i : Int32) (j : Nat) (cl : List Nat) (vn : List Nat) (vc : List Int) (lz : List sp_L) (fk9 : Int32) (fp9 : Int32) (nx9 : Int32) (tk9 : Int32) (st9 : Int32) (nz9 : Int32) (nf9 : Nat → Int32) (bc9 : Int32) (bv9 : Int32) (bl9 : Int32) (vf9 : Nat → Int32), (9000 - i.toInt).toNat = k9 → hp_Z D cs B s V9 H9 n locs9 → hq_P cs G (fun _ => true) V V9 → V9 (kb + 2) = some (.inr (7, [.int (fk9), .int (fp9), .ref (kb), .ref (qb), .int (nx9), .int (tk9), .int (st9), .ref (kb + 3)])) → V9 (kb + 3) = some (.inr (9, [.ref (kb + 3 + 1), .int (nz9)])) → V9 (kb + 4) = some (.inl (cs 0, 12, .inl (nf9))) → V9 (qb) = some (.inr (0, [.ref (qb + 1), .int (bc9), .ref (qb + 14), .ref (qb + 75), .int (bv9), .ref (qb + 76), .int (bl9)])) → V9 (qb + 75) = some (.inl (cs 1, 30, .inl (vf9))) → (∀ x, x ≠ kb + 2 → x ≠ kb + 3 → x ≠ kb + 4 → (x < qb ∨ qb + 377 ≤ x) → V9 x = V x) → hx_TP cs V9 kb w → hx_BS cs V9 qb → hx_SK cs V9 qb → hx_NL cs V9 (qb + 2) 6 w cl → hx_NL cs V9 (qb + 15) 30 w vn → hx_LL cs V9 (qb + 77) w lz → 0 ≤ i.toInt → (i.toInt ≤ sp_s w j) → (hx_A w j st9 nx9 tk9) → fk9.toInt = 0 → fp9.toInt = -1 → (bc9.toInt = (cl.length : Int)) → (bv9.toInt = (vn.length : Int)) → (bl9.toInt = (lz.length : Int)) → (vc.length = vn.length) → (∀ (k : Nat) (x : Int), vc[k]? = some x → (vf9 k).toInt = x) → (sp_prs w (9000 - i.toInt).toNat j (cl, vn, vc, lz) = sp_prs w 9000 0 ([], [], [], [])) → lv_has ls 5 [(4, .int (i)), (3, .int (1)), (0, .ref (kb + 2)), (1, .ref (kb)), (2, .ref (qb))] → W p l e ({ frames := 10, cells := 0, slots := 0, locals := 219 }) s m ([.ref (kb + 2), .ref (kb), .ref (qb)] : List Value).toArray below meth c H9 locs9 0 0 (MQ below (hp_QI D cs B (fun r V' n' => n = n' ∧ hq_P cs G (fun _ => true) V V' ∧ (∀ x, x ≠ kb + 2 → x ≠ kb + 3 → x ≠ kb + 4 → (x < qb ∨ qb + 377 ≤ x) → V' x = V x) ∧ (∃ fk1 : Int32, ∃ fp1 : Int32, ∃ nx1 : Int32, ∃ tk1 : Int32, ∃ st1 : Int32, ∃ nz1 : Int32, ∃ nf1 : Nat → Int32, V' (kb + 2) = some (.inr (7, [.int (fk1), .int (fp1), .ref (kb), .ref (qb), .int (nx1), .int (tk1), .int (st1), .ref (kb + 3)])) ∧ V' (kb + 3) = some (.inr (9, [.ref (kb + 3 + 1), .int (nz1)])) ∧ V' (kb + 4) = some (.inl (cs 0, 12, .inl (nf1))) ∧ (hx_D (r.toInt = 0) (hx_F w (sp_prs w 9000 0 ([], [], [], [])).1 (sp_prs w 9000 0 ([], [], [], [])).2.1 fk1 fp1) ((sp_prs w 9000 0 ([], [], [], [])).1 = 0 ∧ fk1.toInt = 0 ∧ fp1.toInt = -1 ∧ hx_BK cs V' qb w (sp_prs w 9000 0 ([], [], [], [])).2.2)) ∧ (r.toInt = 0 ∨ r.toInt = 1) ∧ (hx_SK cs V' qb) ∧ (hx_BS cs V' qb) ∧ (hx_BK0 V' qb)))) ([.ref (kb + 2), .ref (kb), .ref (qb)] : List Value).toArray s 0 0 (hp_F B)) (F0 m 41 ls []) from lp41 _ _ _ _ ls (0) (0) ([]) ([]) ([]) ([]) (0) (-1) (z35) (z36) (z37) (nz) (nf) (0) (0) (0) (vf) rfl hZ hP ho38 fx48 fx50 fx52 fx54 (fun x8 hne0 hne1 hne2 hne3 => (fr34 x8 hne0).trans ((o24 x8 hne0).trans ((o21 x8 hne0).trans ((o18 x8 hne0).trans ((fr13 x8 (by omega)).trans ((o6 x8 hne0).trans (o3 x8 hne0))))))) pk56 pk58 pk60 hx_NL.nil hx_NL.nil hx_LL.nil (by omega) (by omega) (hp39) (by omega) (by omega) (by simp) (by simp) (by simp) (by simp) (fun k x h9 => by simp at h9) (rfl) (lv_sub hl [0, 1, 2, 3, 4] rfl)
  intro k9
  induction k9 using Nat.strongRecOn with
  | _ k9 ih41 =>
    intro V9 H9 locs9 ls i j cl vn vc lz fk9 fp9 nx9 tk9 st9 nz9 nf9 bc9 bv9 bl9 vf9 hk41 hZ hP ho47 ho49 ho51 ho53 ho55 fr41 pk57 pk59 pk61 pk62 pk63 pk64 hv71 hpos9 hA hv72 hv73 hbc hbv hbl hvl hVC hprs hl
    have hb_i := hq_rng i
    have hb_fk9 := hq_rng fk9
    have hb_fp9 := hq_rng fp9
    have hb_nx9 := hq_rng nx9
    have hb_tk9 := hq_rng tk9
    have hb_st9 := hq_rng st9
    have hb_nz9 := hq_rng nz9
    have hb_bc9 := hq_rng bc9
    have hb_bv9 := hq_rng bv9
    have hb_bl9 := hq_rng bl9
    have hf74 := hq_rgB hP.1 hy4 ho51
    have hf75 := hq_rg2 hP.1 hy8 ho55
    obtain ⟨b76, b77, b78, b79⟩ := id hA
    have ht9 := sp_tok (w := w) (j := j) hA.1
    have hlc := pk62.1
    have hlv := pk63.1
    have hll := pk64.1
    refine lv_iload hx hb dX7_parse_41 (lv_at hl 0 rfl) ?_
    refine lv_sipush (v := 4000) hx hb dX7_parse_43 (by decide) ?_
    refine lv_icmp_gt (tgt := 138) hx hb dX7_parse_46 (by decide) (fun c80 => ?_) (fun c80 => ?_)
    · have c80 : (4000 : Int) < (i).toInt := hq_lti.mp c80
      refine lv_iload_n hx hb dX7_parse_138 rfl (lv_at hl 1 rfl) ?_
      have hl81 : (1 : Int32).toInt = 1 := by decide
      exact hp_zret hx hb hr rfl hlocks hZ ⟨rfl, hP, (fun x8 hne0 hne1 hne2 hne3 => fr41 x8 hne0 hne1 hne2 hne3), fk9, fp9, nx9, tk9, st9, nz9, nf9, ho47, ho49, ho51, hx_D.r (by omega) (by rw [← hprs, show (9000 - i.toInt).toNat = (8999 - i.toInt).toNat + 1 by omega, sp_prs_end (by omega)]; exact ⟨rfl, by omega, by omega, ⟨⟨_, _, _, ho53, by omega, by omega, by omega⟩, pk62, pk63, ⟨_, ho55, hvl, hVC⟩, pk64⟩⟩), by omega, pk61, pk59, ⟨_, _, _, ho53, by omega, by omega, by omega⟩⟩ dX7_parse_139
    · have c80 : ¬ (4000 : Int) < (i).toInt := fun h9 => c80 (hq_lti.mpr h9)
      refine lv_iload_n hx hb dX7_parse_49 rfl (lv_at hl 1 rfl) ?_
      refine lv_if_eq (tgt := 138) hx hb dX7_parse_50 (by decide) (fun c82 => absurd c82 (by decide)) (fun c82 => ?_)
      refine lv_aload_n hx hb dX7_parse_53 rfl (lv_at hl 2 rfl) ?_
      refine hp_get (v := .int (tk9)) hx hb hts hown hZ ho47 fl_X7_45 rfl dX7_parse_54 ?_
      refine lv_bipush (v := 21) hx hb dX7_parse_57 (by decide) ?_
      refine lv_icmp_eq (tgt := 138) hx hb dX7_parse_59 (by decide) (fun c83 => ?_) (fun c83 => ?_)
      · have c83 : (tk9).toInt = (21 : Int) := hq_eqi.mp c83
        refine lv_iload_n hx hb dX7_parse_138 rfl (lv_at hl 1 rfl) ?_
        have hl84 : (1 : Int32).toInt = 1 := by decide
        exact hp_zret hx hb hr rfl hlocks hZ ⟨rfl, hP, (fun x8 hne0 hne1 hne2 hne3 => fr41 x8 hne0 hne1 hne2 hne3), fk9, fp9, nx9, tk9, st9, nz9, nf9, ho47, ho49, ho51, hx_D.r (by omega) (by rw [← hprs, show (9000 - i.toInt).toNat = (8999 - i.toInt).toNat + 1 by omega, sp_prs_end (by omega)]; exact ⟨rfl, by omega, by omega, ⟨⟨_, _, _, ho53, by omega, by omega, by omega⟩, pk62, pk63, ⟨_, ho55, hvl, hVC⟩, pk64⟩⟩), by omega, pk61, pk59, ⟨_, _, _, ho53, by omega, by omega, by omega⟩⟩ dX7_parse_139
      · have c83 : ¬ (tk9).toInt = (21 : Int) := fun h9 => c83 (hq_eqi.mpr h9)
        refine lv_aload_n hx hb dX7_parse_62 rfl (lv_at hl 2 rfl) ?_
        refine hp_get (v := .int (tk9)) hx hb hts hown hZ ho47 fl_X7_45 rfl dX7_parse_63 ?_
        rcases Classical.em (tk9 = 6) with h85 | h85
        · refine lv_lookup (off := 26) (tgt := 92) hx hb dX7_parse_66 (by decide) (by rw [h85]; decide) (by decide) ?_
          have b86 : (tk9).toInt = 6 := by rw [h85]; decide
          obtain ⟨ta, hta0, hta2⟩ : ∃ ta, (cl.length < 6 → ta = qb + 2 + 2 * cl.length) ∧ (qb + 2 ≤ ta ∧ ta + 2 ≤ qb + 14) := by by_cases h9 : cl.length < 6; (· exact ⟨qb + 2 + 2 * cl.length, fun _ => rfl, by omega⟩); (· exact ⟨qb + 2, fun h8 => absurd h8 h9, by omega⟩)
          refine lv_aload_n hx hb dX7_parse_92 rfl (lv_at hl 2 rfl) ?_
          refine hp_calli (hp_runV (As := []) (rest := []) hx hb hml hown hts (x_takeClass l D cs B G V9 n hP.1 (kb) (qb) (w) (ta) (bb) (j) (cl) (vn) (fk9) (fp9) (nx9) (tk9) (st9) (nz9) (nf9) (bc9) (bv9) (bl9) hy0 hy1 hy2 hy3 hy4 hy5 hy6 hy7 hy8 hy9 ho47 ho49 ho51 ho53 pk57 pk59 pk62 pk63 pk61 hA hq (by omega) (by omega) (by omega) hBT hta0 hta2 (by omega)) hZ ho47 cv_X7_48 rfl rfl ⟨Nat.le_of_ble_eq_true rfl, Nat.le_of_ble_eq_true rfl⟩ rfl hl.1 rfl (Nat.le_of_ble_eq_true rfl) dX7_parse_93 ⟨(Nat.le_of_ble_eq_true rfl), (Nat.le_of_ble_eq_true rfl)⟩) hZ (fun r90 V87 n88 _ _ hw89 hZ => ?_)
          obtain ⟨rfl, hq91, fr92, z93, z94, z95, z96, z97, z98, u99, z100, ho101, ho102, ho103, ho104, hp105, hp106, hp107, hp108⟩ := hw89
          have b109 := hq_rng z93
          have b110 := hq_rng z94
          have b111 := hq_rng z95
          have b112 := hq_rng z96
          have b113 := hq_rng z97
          have b114 := hq_rng z98
          have b115 := hq_rng z100
          have hP := hP.trans hq91 (fun _ h => Bool.noConfusion h)
          have hf116 := hq_rgB hP.1 hy4 ho103
          have b117 := hq_rng r90
          refine lv_istore_n (lv' := [(3, .int (r90)), (4, .int (i)), (0, .ref (kb + 2)), (1, .ref (kb)), (2, .ref (qb))]) hx hb dX7_parse_96 rfl hl (by decide) rfl (fun ls hl => ?_)
          refine lv_goto (tgt := 113) hx hb dX7_parse_97 (by decide) ?_
          refine lv_iload_n hx hb dX7_parse_113 rfl (lv_at hl 0 rfl) ?_
          refine lv_if_eq (tgt := 130) hx hb dX7_parse_114 (by decide) (fun c118 => ?_) (fun c118 => ?_)
          · have c118 : (r90).toInt = (0 : Int) := hq_eqi.mp c118
            have hF119 := hx_D.pos hp105 (by omega)
            have b120 := hF119.1
            have b121 := hF119.2.1
            refine lv_iconst (v := 0) hx hb dX7_parse_130 (by decide) ?_
            refine lv_istore_n (lv' := [(3, .int (0)), (4, .int (i)), (0, .ref (kb + 2)), (1, .ref (kb)), (2, .ref (qb))]) hx hb dX7_parse_131 rfl hl (by decide) rfl (fun ls hl => ?_)
            obtain ⟨y122, ey123⟩ : ∃ y : Int32, y = i + (1) := ⟨_, rfl⟩
            obtain ⟨k124, hk125, b126, b127⟩ := hq_add (i) (1)
            rw [← ey123] at hk125 b126 b127
            have hk125 : (y122).toInt = (i).toInt + (1) + k124 * 4294967296 := hk125
            obtain rfl : k124 = 0 := by omega
            refine lv_iinc (v := y122) (lv' := [(4, .int (y122)), (3, .int (0)), (0, .ref (kb + 2)), (1, .ref (kb)), (2, .ref (qb))]) hx hb dX7_parse_132 hl (k := 1) rfl (by rw [ey123]; rfl) (by decide) rfl (fun ls hl => ?_)
            refine lv_goto (tgt := 41) hx hb dX7_parse_135 (by decide) ?_
            refine lv_iload hx hb dX7_parse_41 (lv_at hl 0 rfl) ?_
            refine lv_sipush (v := 4000) hx hb dX7_parse_43 (by decide) ?_
            refine lv_icmp_gt (tgt := 138) hx hb dX7_parse_46 (by decide) (fun c128 => ?_) (fun c128 => ?_)
            · have c128 : (4000 : Int) < (y122).toInt := hq_lti.mp c128
              refine lv_iload_n hx hb dX7_parse_138 rfl (lv_at hl 1 rfl) ?_
              have hl129 : (0 : Int32).toInt = 0 := by decide
              have pk130 := pk59.keep (fr92 (qb + 1) (hq_tne hy6 hy2 (by simp)) (hq_tne hy6 hy3 (by simp)) (hq_tne hy6 hy4 (by simp)) (hq_tne hy6 hy5 (by simp)) (by omega) (by omega)) (fr92 (qb + 14) (hq_tne hy7 hy2 (by simp)) (hq_tne hy7 hy3 (by simp)) (hq_tne hy7 hy4 (by simp)) (hq_tne hy7 hy5 (by simp)) (by omega) (by omega)) (fr92 (qb + 76) (hq_tne hy9 hy2 (by simp)) (hq_tne hy9 hy3 (by simp)) (hq_tne hy9 hy4 (by simp)) (hq_tne hy9 hy5 (by simp)) (by omega) (by omega))
              exact hp_zret hx hb hr rfl hlocks hZ ⟨rfl, hP, (fun x8 hne0 hne1 hne2 hne3 => (fr92 x8 hne0 hne1 hne2 (by omega) (by omega) (by omega)).trans (fr41 x8 hne0 hne1 hne2 hne3)), z93, z94, z95, z96, z97, z98, u99, ho101, ho102, ho103, hx_D.l (by omega) (by rw [← hprs, show (9000 - i.toInt).toNat = (8999 - i.toInt).toNat + 1 by omega, sp_prs_bad (b := (cl, vn, vc, lz)) (by omega) (by rw [sp_it_c (by omega)]; omega), sp_it_c (by omega)]; exact hF119), by omega, hp107, pk130, ⟨_, _, _, ho104, by omega, by omega, by omega⟩⟩ dX7_parse_139
            · have c128 : ¬ (4000 : Int) < (y122).toInt := fun h9 => c128 (hq_lti.mpr h9)
              refine lv_iload_n hx hb dX7_parse_49 rfl (lv_at hl 1 rfl) ?_
              refine lv_if_eq (tgt := 138) hx hb dX7_parse_50 (by decide) (fun c131 => ?_) (fun c131 => absurd (by decide) c131)
              refine lv_iload_n hx hb dX7_parse_138 rfl (lv_at hl 1 rfl) ?_
              have hl132 : (0 : Int32).toInt = 0 := by decide
              have pk133 := pk59.keep (fr92 (qb + 1) (hq_tne hy6 hy2 (by simp)) (hq_tne hy6 hy3 (by simp)) (hq_tne hy6 hy4 (by simp)) (hq_tne hy6 hy5 (by simp)) (by omega) (by omega)) (fr92 (qb + 14) (hq_tne hy7 hy2 (by simp)) (hq_tne hy7 hy3 (by simp)) (hq_tne hy7 hy4 (by simp)) (hq_tne hy7 hy5 (by simp)) (by omega) (by omega)) (fr92 (qb + 76) (hq_tne hy9 hy2 (by simp)) (hq_tne hy9 hy3 (by simp)) (hq_tne hy9 hy4 (by simp)) (hq_tne hy9 hy5 (by simp)) (by omega) (by omega))
              exact hp_zret hx hb hr rfl hlocks hZ ⟨rfl, hP, (fun x8 hne0 hne1 hne2 hne3 => (fr92 x8 hne0 hne1 hne2 (by omega) (by omega) (by omega)).trans (fr41 x8 hne0 hne1 hne2 hne3)), z93, z94, z95, z96, z97, z98, u99, ho101, ho102, ho103, hx_D.l (by omega) (by rw [← hprs, show (9000 - i.toInt).toNat = (8999 - i.toInt).toNat + 1 by omega, sp_prs_bad (b := (cl, vn, vc, lz)) (by omega) (by rw [sp_it_c (by omega)]; omega), sp_it_c (by omega)]; exact hF119), by omega, hp107, pk133, ⟨_, _, _, ho104, by omega, by omega, by omega⟩⟩ dX7_parse_139
          · have c118 : ¬ (r90).toInt = (0 : Int) := fun h9 => c118 (hq_eqi.mpr h9)
            obtain ⟨b134, ⟨b135, b136, hA137⟩, b138, b139, b140⟩ := hx_D.neg hp105 (by omega)
            obtain ⟨b141, b142, b143, b144⟩ := id hA137
            have hln145 := sp_len1 cl (j + 1)
            have hta := hta0 (by omega)
            have pk146 := pk62.keep (fun x7 (hx7 : qb + 2 ≤ x7 ∧ x7 < qb + 2 + 2 * cl.length) => fr92 x7 (by omega) (by omega) (by omega) (by omega) (by omega) (by omega))
            have pk147 := pk146.add (by omega) (by rw [← hta]; exact b139)
            have hge := sp_item_ge (w := w) (j := j) (cl, vn, vc, lz)
            rw [sp_it_c (by omega)] at hge
            dsimp only at hge
            refine lv_aload_n hx hb dX7_parse_117 rfl (lv_at hl 2 rfl) ?_
            refine lv_bipush (v := 20) hx hb dX7_parse_118 (by decide) ?_
            have hl148 : (20 : Int32).toInt = 20 := by decide
            have pk149 := pk57.keep (fr92 (kb) (hq_tne hy0 hy2 (by simp)) (hq_tne hy0 hy3 (by simp)) (hq_tne hy0 hy4 (by simp)) (hq_tne hy0 hy5 (by simp)) (by omega) (by omega)) (fr92 (kb + 1) (hq_tne hy1 hy2 (by simp)) (hq_tne hy1 hy3 (by simp)) (hq_tne hy1 hy4 (by simp)) (hq_tne hy1 hy5 (by simp)) (by omega) (by omega))
            refine hp_calli (hp_runV (As := [.int (20)]) (rest := []) hx hb hml hown hts (x_take l D cs B G V87 n hP.1 (kb) (qb) (w) ((sp_tc w cl j).2) (20) (20) (z93) (z94) (z95) (z96) (z97) hy0 hy1 hy2 ho101 pk149 hA137 (by decide) (by decide)) hZ ho101 cv_X7_58 rfl rfl ⟨Nat.le_of_ble_eq_true rfl, Nat.le_of_ble_eq_true rfl⟩ rfl hl.1 rfl (Nat.le_of_ble_eq_true rfl) dX7_parse_120 ⟨(Nat.le_of_ble_eq_true rfl), (Nat.le_of_ble_eq_true rfl)⟩) hZ (fun r153 V150 n151 _ _ hw152 hZ => ?_)
            obtain ⟨rfl, hq154, fr155, z156, z157, z158, z159, z160, ho161, hp162, hp163⟩ := hw152
            have b164 := hq_rng z156
            have b165 := hq_rng z157
            have b166 := hq_rng z158
            have b167 := hq_rng z159
            have b168 := hq_rng z160
            have hP := hP.trans hq154 (fun _ h => Bool.noConfusion h)
            have b169 := hq_rng r153
            refine lv_if_eq (tgt := 130) hx hb dX7_parse_123 (by decide) (fun c170 => ?_) (fun c170 => ?_)
            · have c170 : (r153).toInt = (0 : Int) := hq_eqi.mp c170
              have hF171 := hx_D.pos hp162 (by omega)
              have b172 := hF171.1
              have b173 := hF171.2.1
              refine lv_iconst (v := 0) hx hb dX7_parse_130 (by decide) ?_
              refine lv_istore_n (lv' := [(3, .int (0)), (4, .int (i)), (0, .ref (kb + 2)), (1, .ref (kb)), (2, .ref (qb))]) hx hb dX7_parse_131 rfl hl (by decide) rfl (fun ls hl => ?_)
              obtain ⟨y174, ey175⟩ : ∃ y : Int32, y = i + (1) := ⟨_, rfl⟩
              obtain ⟨k176, hk177, b178, b179⟩ := hq_add (i) (1)
              rw [← ey175] at hk177 b178 b179
              have hk177 : (y174).toInt = (i).toInt + (1) + k176 * 4294967296 := hk177
              obtain rfl : k176 = 0 := by omega
              refine lv_iinc (v := y174) (lv' := [(4, .int (y174)), (3, .int (0)), (0, .ref (kb + 2)), (1, .ref (kb)), (2, .ref (qb))]) hx hb dX7_parse_132 hl (k := 1) rfl (by rw [ey175]; rfl) (by decide) rfl (fun ls hl => ?_)
              refine lv_goto (tgt := 41) hx hb dX7_parse_135 (by decide) ?_
              refine lv_iload hx hb dX7_parse_41 (lv_at hl 0 rfl) ?_
              refine lv_sipush (v := 4000) hx hb dX7_parse_43 (by decide) ?_
              refine lv_icmp_gt (tgt := 138) hx hb dX7_parse_46 (by decide) (fun c180 => ?_) (fun c180 => ?_)
              · have c180 : (4000 : Int) < (y174).toInt := hq_lti.mp c180
                refine lv_iload_n hx hb dX7_parse_138 rfl (lv_at hl 1 rfl) ?_
                have hl181 : (0 : Int32).toInt = 0 := by decide
                have fx182 : V150 (kb + 3) = some (.inr (9, [.ref (kb + 4), .int (z98)])) := (fr155 (kb + 3) (hq_tne hy3 hy2 (by simp))).trans (ho102)
                have fx183 : V150 (kb + 4) = some (.inl (cs 0, 12, .inl (u99))) := (fr155 (kb + 4) (hq_tne hy4 hy2 (by simp))).trans (ho103)
                have pk184 := hp107.keep (fun x7 (hx7 : qb + 2 ≤ x7 ∧ x7 < qb + 377) => fr155 x7 (by omega))
                have pk185 := pk59.keep ((fr155 (qb + 1) (hq_tne hy6 hy2 (by simp))).trans (fr92 (qb + 1) (hq_tne hy6 hy2 (by simp)) (hq_tne hy6 hy3 (by simp)) (hq_tne hy6 hy4 (by simp)) (hq_tne hy6 hy5 (by simp)) (by omega) (by omega))) ((fr155 (qb + 14) (hq_tne hy7 hy2 (by simp))).trans (fr92 (qb + 14) (hq_tne hy7 hy2 (by simp)) (hq_tne hy7 hy3 (by simp)) (hq_tne hy7 hy4 (by simp)) (hq_tne hy7 hy5 (by simp)) (by omega) (by omega))) ((fr155 (qb + 76) (hq_tne hy9 hy2 (by simp))).trans (fr92 (qb + 76) (hq_tne hy9 hy2 (by simp)) (hq_tne hy9 hy3 (by simp)) (hq_tne hy9 hy4 (by simp)) (hq_tne hy9 hy5 (by simp)) (by omega) (by omega)))
                have fx186 : V150 (qb) = some (.inr (0, [.ref (qb + 1), .int (z100), .ref (qb + 14), .ref (qb + 75), .int (bv9), .ref (qb + 76), .int (bl9)])) := (fr155 (qb) (hq_tne hy5 hy2 (by simp))).trans (ho104)
                exact hp_zret hx hb hr rfl hlocks hZ ⟨rfl, hP, (fun x8 hne0 hne1 hne2 hne3 => (fr155 x8 hne0).trans ((fr92 x8 hne0 hne1 hne2 (by omega) (by omega) (by omega)).trans (fr41 x8 hne0 hne1 hne2 hne3))), z156, z157, z158, z159, z160, z98, u99, ho161, fx182, fx183, hx_D.l (by omega) (by rw [← hprs, show (9000 - i.toInt).toNat = (8999 - i.toInt).toNat + 1 by omega, sp_prs_semi (b := (cl, vn, vc, lz)) (by omega) (by rw [sp_it_c (by omega)]; omega) (by rw [sp_it_c (by omega)]; omega), sp_it_c (by omega)]; exact hF171), by omega, pk184, pk185, ⟨_, _, _, fx186, by omega, by omega, by omega⟩⟩ dX7_parse_139
              · have c180 : ¬ (4000 : Int) < (y174).toInt := fun h9 => c180 (hq_lti.mpr h9)
                refine lv_iload_n hx hb dX7_parse_49 rfl (lv_at hl 1 rfl) ?_
                refine lv_if_eq (tgt := 138) hx hb dX7_parse_50 (by decide) (fun c187 => ?_) (fun c187 => absurd (by decide) c187)
                refine lv_iload_n hx hb dX7_parse_138 rfl (lv_at hl 1 rfl) ?_
                have hl188 : (0 : Int32).toInt = 0 := by decide
                have fx189 : V150 (kb + 3) = some (.inr (9, [.ref (kb + 4), .int (z98)])) := (fr155 (kb + 3) (hq_tne hy3 hy2 (by simp))).trans (ho102)
                have fx190 : V150 (kb + 4) = some (.inl (cs 0, 12, .inl (u99))) := (fr155 (kb + 4) (hq_tne hy4 hy2 (by simp))).trans (ho103)
                have pk191 := hp107.keep (fun x7 (hx7 : qb + 2 ≤ x7 ∧ x7 < qb + 377) => fr155 x7 (by omega))
                have pk192 := pk59.keep ((fr155 (qb + 1) (hq_tne hy6 hy2 (by simp))).trans (fr92 (qb + 1) (hq_tne hy6 hy2 (by simp)) (hq_tne hy6 hy3 (by simp)) (hq_tne hy6 hy4 (by simp)) (hq_tne hy6 hy5 (by simp)) (by omega) (by omega))) ((fr155 (qb + 14) (hq_tne hy7 hy2 (by simp))).trans (fr92 (qb + 14) (hq_tne hy7 hy2 (by simp)) (hq_tne hy7 hy3 (by simp)) (hq_tne hy7 hy4 (by simp)) (hq_tne hy7 hy5 (by simp)) (by omega) (by omega))) ((fr155 (qb + 76) (hq_tne hy9 hy2 (by simp))).trans (fr92 (qb + 76) (hq_tne hy9 hy2 (by simp)) (hq_tne hy9 hy3 (by simp)) (hq_tne hy9 hy4 (by simp)) (hq_tne hy9 hy5 (by simp)) (by omega) (by omega)))
                have fx193 : V150 (qb) = some (.inr (0, [.ref (qb + 1), .int (z100), .ref (qb + 14), .ref (qb + 75), .int (bv9), .ref (qb + 76), .int (bl9)])) := (fr155 (qb) (hq_tne hy5 hy2 (by simp))).trans (ho104)
                exact hp_zret hx hb hr rfl hlocks hZ ⟨rfl, hP, (fun x8 hne0 hne1 hne2 hne3 => (fr155 x8 hne0).trans ((fr92 x8 hne0 hne1 hne2 (by omega) (by omega) (by omega)).trans (fr41 x8 hne0 hne1 hne2 hne3))), z156, z157, z158, z159, z160, z98, u99, ho161, fx189, fx190, hx_D.l (by omega) (by rw [← hprs, show (9000 - i.toInt).toNat = (8999 - i.toInt).toNat + 1 by omega, sp_prs_semi (b := (cl, vn, vc, lz)) (by omega) (by rw [sp_it_c (by omega)]; omega) (by rw [sp_it_c (by omega)]; omega), sp_it_c (by omega)]; exact hF171), by omega, pk191, pk192, ⟨_, _, _, fx193, by omega, by omega, by omega⟩⟩ dX7_parse_139
            · have c170 : ¬ (r153).toInt = (0 : Int) := fun h9 => c170 (hq_eqi.mpr h9)
              obtain ⟨b194, ⟨b195, b196, hA197⟩⟩ := hx_D.neg hp162 (by omega)
              obtain ⟨b198, b199, b200, b201⟩ := id hA197
              refine lv_iconst (v := 1) hx hb dX7_parse_126 (by decide) ?_
              refine lv_goto (tgt := 131) hx hb dX7_parse_127 (by decide) ?_
              refine lv_istore_n (lv' := [(3, .int (1)), (4, .int (i)), (0, .ref (kb + 2)), (1, .ref (kb)), (2, .ref (qb))]) hx hb dX7_parse_131 rfl hl (by decide) rfl (fun ls hl => ?_)
              obtain ⟨y202, ey203⟩ : ∃ y : Int32, y = i + (1) := ⟨_, rfl⟩
              obtain ⟨k204, hk205, b206, b207⟩ := hq_add (i) (1)
              rw [← ey203] at hk205 b206 b207
              have hk205 : (y202).toInt = (i).toInt + (1) + k204 * 4294967296 := hk205
              obtain rfl : k204 = 0 := by omega
              refine lv_iinc (v := y202) (lv' := [(4, .int (y202)), (3, .int (1)), (0, .ref (kb + 2)), (1, .ref (kb)), (2, .ref (qb))]) hx hb dX7_parse_132 hl (k := 1) rfl (by rw [ey203]; rfl) (by decide) rfl (fun ls hl => ?_)
              refine lv_goto (tgt := 41) hx hb dX7_parse_135 (by decide) ?_
              have fx208 : V150 (kb + 3) = some (.inr (9, [.ref (kb + 4), .int (z98)])) := (fr155 (kb + 3) (hq_tne hy3 hy2 (by simp))).trans (ho102)
              have fx209 : V150 (kb + 4) = some (.inl (cs 0, 12, .inl (u99))) := (fr155 (kb + 4) (hq_tne hy4 hy2 (by simp))).trans (ho103)
              have fx210 : V150 (qb) = some (.inr (0, [.ref (qb + 1), .int (z100), .ref (qb + 14), .ref (qb + 75), .int (bv9), .ref (qb + 76), .int (bl9)])) := (fr155 (qb) (hq_tne hy5 hy2 (by simp))).trans (ho104)
              have fx211 : V150 (qb + 75) = some (.inl (cs 1, 30, .inl (vf9))) := (fr155 (qb + 75) (hq_tne hy8 hy2 (by simp))).trans ((fr92 (qb + 75) (hq_tne hy8 hy2 (by simp)) (hq_tne hy8 hy3 (by simp)) (hq_tne hy8 hy4 (by simp)) (hq_tne hy8 hy5 (by simp)) (by omega) (by omega)).trans (ho55))
              have pk212 := pk149.keep (fr155 (kb) (hq_tne hy0 hy2 (by simp))) (fr155 (kb + 1) (hq_tne hy1 hy2 (by simp)))
              have pk213 := pk59.keep ((fr155 (qb + 1) (hq_tne hy6 hy2 (by simp))).trans (fr92 (qb + 1) (hq_tne hy6 hy2 (by simp)) (hq_tne hy6 hy3 (by simp)) (hq_tne hy6 hy4 (by simp)) (hq_tne hy6 hy5 (by simp)) (by omega) (by omega))) ((fr155 (qb + 14) (hq_tne hy7 hy2 (by simp))).trans (fr92 (qb + 14) (hq_tne hy7 hy2 (by simp)) (hq_tne hy7 hy3 (by simp)) (hq_tne hy7 hy4 (by simp)) (hq_tne hy7 hy5 (by simp)) (by omega) (by omega))) ((fr155 (qb + 76) (hq_tne hy9 hy2 (by simp))).trans (fr92 (qb + 76) (hq_tne hy9 hy2 (by simp)) (hq_tne hy9 hy3 (by simp)) (hq_tne hy9 hy4 (by simp)) (hq_tne hy9 hy5 (by simp)) (by omega) (by omega)))
              have pk214 := hp107.keep (fun x7 (hx7 : qb + 2 ≤ x7 ∧ x7 < qb + 377) => fr155 x7 (by omega))
              have pk215 := pk147.keep (fun x7 (hx7 : qb + 2 ≤ x7 ∧ x7 < qb + 2 + 2 * (cl ++ [j + 1]).length) => fr155 x7 (by omega))
              have pk216 := pk63.keep (fun x7 (hx7 : qb + 15 ≤ x7 ∧ x7 < qb + 15 + 2 * vn.length) => (fr155 x7 (by omega)).trans (fr92 x7 (by omega) (by omega) (by omega) (by omega) (by omega) (by omega)))
              have pk217 := pk64.keep (fun x7 (hx7 : qb + 77 ≤ x7 ∧ x7 < qb + 77 + 5 * lz.length) => (fr155 x7 (by omega)).trans (fr92 x7 (by omega) (by omega) (by omega) (by omega) (by omega) (by omega)))
              exact ih41 _ (by omega) _ _ _ ls (y202) ((sp_take w 20 ((sp_tc w cl j).2)).2) ((cl ++ [j + 1])) (vn) (vc) (lz) (z156) (z157) (z158) (z159) (z160) (z98) (u99) (z100) (bv9) (bl9) (vf9) rfl hZ hP ho161 fx208 fx209 fx210 fx211 (fun x8 hne0 hne1 hne2 hne3 => (fr155 x8 hne0).trans ((fr92 x8 hne0 hne1 hne2 (by omega) (by omega) (by omega)).trans (fr41 x8 hne0 hne1 hne2 hne3))) pk212 pk213 pk214 pk215 pk216 pk217 (by omega) (by have h8 := (sp_take_j (w := w) (d := 20) (j := (sp_tc w cl j).2) (by omega)).1; have h9 := sp_s_mono2 w (j := j) (k := (sp_take w 20 ((sp_tc w cl j).2)).2) (by omega); omega) (hA197) (by omega) (by omega) (by omega) (by omega) (by omega) (by omega) (hVC) (by rw [← hprs, show (9000 - i.toInt).toNat = (9000 - (y202).toInt).toNat + 1 by omega, sp_prs_ok (b := (cl, vn, vc, lz)) (by omega) (by rw [sp_it_c (by omega)]; omega) (by rw [sp_it_c (by omega)]; omega), sp_it_c (by omega)]) (lv_sub hl [0, 1, 2, 3, 4] rfl)
        ·
          rcases Classical.em (tk9 = 7) with h218 | h218
          · refine lv_lookup (off := 34) (tgt := 100) hx hb dX7_parse_66 (by decide) (by rw [h218]; decide) (by decide) ?_
            have b219 : (tk9).toInt = 7 := by rw [h218]; decide
            obtain ⟨ta, hta0, hta2⟩ : ∃ ta, (vn.length < 30 → ta = qb + 15 + 2 * vn.length) ∧ (qb + 15 ≤ ta ∧ ta + 2 ≤ qb + 75) := by by_cases h9 : vn.length < 30; (· exact ⟨qb + 15 + 2 * vn.length, fun _ => rfl, by omega⟩); (· exact ⟨qb + 15, fun h8 => absurd h8 h9, by omega⟩)
            refine lv_aload_n hx hb dX7_parse_100 rfl (lv_at hl 2 rfl) ?_
            refine hp_calli (hp_runV (As := []) (rest := []) hx hb hml hown hts (x_takeVerb l D cs B G V9 n hP.1 (kb) (qb) (w) (ta) (bb) (j) (cl) (vn) (fk9) (fp9) (nx9) (tk9) (st9) (nz9) (nf9) (bc9) (bv9) (bl9) (vf9) hy0 hy1 hy2 hy3 hy4 hy5 hy6 hy7 hy8 hy9 ho47 ho49 ho51 ho53 ho55 pk57 pk59 pk62 pk63 pk61 hA hq (by omega) (by omega) (by omega) hBT hta0 hta2 (by omega)) hZ ho47 cv_X7_52 rfl rfl ⟨Nat.le_of_ble_eq_true rfl, Nat.le_of_ble_eq_true rfl⟩ rfl hl.1 rfl (Nat.le_of_ble_eq_true rfl) dX7_parse_101 ⟨(Nat.le_of_ble_eq_true rfl), (Nat.le_of_ble_eq_true rfl)⟩) hZ (fun r223 V220 n221 _ _ hw222 hZ => ?_)
            obtain ⟨rfl, hq224, fr225, z226, z227, z228, z229, z230, z231, u232, z233, u234, ho235, ho236, ho237, ho238, ho239, hp240, hp241, hp242, hp243⟩ := hw222
            have b244 := hq_rng z226
            have b245 := hq_rng z227
            have b246 := hq_rng z228
            have b247 := hq_rng z229
            have b248 := hq_rng z230
            have b249 := hq_rng z231
            have b250 := hq_rng z233
            have hP := hP.trans hq224 (fun _ h => Bool.noConfusion h)
            have hf251 := hq_rgB hP.1 hy4 ho237
            have hf252 := hq_rg2 hP.1 hy8 ho239
            have b253 := hq_rng r223
            refine lv_istore_n (lv' := [(3, .int (r223)), (4, .int (i)), (0, .ref (kb + 2)), (1, .ref (kb)), (2, .ref (qb))]) hx hb dX7_parse_104 rfl hl (by decide) rfl (fun ls hl => ?_)
            refine lv_goto (tgt := 113) hx hb dX7_parse_105 (by decide) ?_
            refine lv_iload_n hx hb dX7_parse_113 rfl (lv_at hl 0 rfl) ?_
            refine lv_if_eq (tgt := 130) hx hb dX7_parse_114 (by decide) (fun c254 => ?_) (fun c254 => ?_)
            · have c254 : (r223).toInt = (0 : Int) := hq_eqi.mp c254
              have hF255 := hx_D.pos hp240 (by omega)
              have b256 := hF255.1
              have b257 := hF255.2.1
              refine lv_iconst (v := 0) hx hb dX7_parse_130 (by decide) ?_
              refine lv_istore_n (lv' := [(3, .int (0)), (4, .int (i)), (0, .ref (kb + 2)), (1, .ref (kb)), (2, .ref (qb))]) hx hb dX7_parse_131 rfl hl (by decide) rfl (fun ls hl => ?_)
              obtain ⟨y258, ey259⟩ : ∃ y : Int32, y = i + (1) := ⟨_, rfl⟩
              obtain ⟨k260, hk261, b262, b263⟩ := hq_add (i) (1)
              rw [← ey259] at hk261 b262 b263
              have hk261 : (y258).toInt = (i).toInt + (1) + k260 * 4294967296 := hk261
              obtain rfl : k260 = 0 := by omega
              refine lv_iinc (v := y258) (lv' := [(4, .int (y258)), (3, .int (0)), (0, .ref (kb + 2)), (1, .ref (kb)), (2, .ref (qb))]) hx hb dX7_parse_132 hl (k := 1) rfl (by rw [ey259]; rfl) (by decide) rfl (fun ls hl => ?_)
              refine lv_goto (tgt := 41) hx hb dX7_parse_135 (by decide) ?_
              refine lv_iload hx hb dX7_parse_41 (lv_at hl 0 rfl) ?_
              refine lv_sipush (v := 4000) hx hb dX7_parse_43 (by decide) ?_
              refine lv_icmp_gt (tgt := 138) hx hb dX7_parse_46 (by decide) (fun c264 => ?_) (fun c264 => ?_)
              · have c264 : (4000 : Int) < (y258).toInt := hq_lti.mp c264
                refine lv_iload_n hx hb dX7_parse_138 rfl (lv_at hl 1 rfl) ?_
                have hl265 : (0 : Int32).toInt = 0 := by decide
                have pk266 := pk59.keep (fr225 (qb + 1) (hq_tne hy6 hy2 (by simp)) (hq_tne hy6 hy3 (by simp)) (hq_tne hy6 hy4 (by simp)) (hq_tne hy6 hy5 (by simp)) (hq_tne hy6 hy8 (by simp)) (by omega) (by omega)) (fr225 (qb + 14) (hq_tne hy7 hy2 (by simp)) (hq_tne hy7 hy3 (by simp)) (hq_tne hy7 hy4 (by simp)) (hq_tne hy7 hy5 (by simp)) (hq_tne hy7 hy8 (by simp)) (by omega) (by omega)) (fr225 (qb + 76) (hq_tne hy9 hy2 (by simp)) (hq_tne hy9 hy3 (by simp)) (hq_tne hy9 hy4 (by simp)) (hq_tne hy9 hy5 (by simp)) (hq_tne hy9 hy8 (by simp)) (by omega) (by omega))
                exact hp_zret hx hb hr rfl hlocks hZ ⟨rfl, hP, (fun x8 hne0 hne1 hne2 hne3 => (fr225 x8 hne0 hne1 hne2 (by omega) (by omega) (by omega) (by omega)).trans (fr41 x8 hne0 hne1 hne2 hne3)), z226, z227, z228, z229, z230, z231, u232, ho235, ho236, ho237, hx_D.l (by omega) (by rw [← hprs, show (9000 - i.toInt).toNat = (8999 - i.toInt).toNat + 1 by omega, sp_prs_bad (b := (cl, vn, vc, lz)) (by omega) (by rw [sp_it_v (by omega)]; omega), sp_it_v (by omega)]; exact hF255), by omega, hp242, pk266, ⟨_, _, _, ho238, by omega, by omega, by omega⟩⟩ dX7_parse_139
              · have c264 : ¬ (4000 : Int) < (y258).toInt := fun h9 => c264 (hq_lti.mpr h9)
                refine lv_iload_n hx hb dX7_parse_49 rfl (lv_at hl 1 rfl) ?_
                refine lv_if_eq (tgt := 138) hx hb dX7_parse_50 (by decide) (fun c267 => ?_) (fun c267 => absurd (by decide) c267)
                refine lv_iload_n hx hb dX7_parse_138 rfl (lv_at hl 1 rfl) ?_
                have hl268 : (0 : Int32).toInt = 0 := by decide
                have pk269 := pk59.keep (fr225 (qb + 1) (hq_tne hy6 hy2 (by simp)) (hq_tne hy6 hy3 (by simp)) (hq_tne hy6 hy4 (by simp)) (hq_tne hy6 hy5 (by simp)) (hq_tne hy6 hy8 (by simp)) (by omega) (by omega)) (fr225 (qb + 14) (hq_tne hy7 hy2 (by simp)) (hq_tne hy7 hy3 (by simp)) (hq_tne hy7 hy4 (by simp)) (hq_tne hy7 hy5 (by simp)) (hq_tne hy7 hy8 (by simp)) (by omega) (by omega)) (fr225 (qb + 76) (hq_tne hy9 hy2 (by simp)) (hq_tne hy9 hy3 (by simp)) (hq_tne hy9 hy4 (by simp)) (hq_tne hy9 hy5 (by simp)) (hq_tne hy9 hy8 (by simp)) (by omega) (by omega))
                exact hp_zret hx hb hr rfl hlocks hZ ⟨rfl, hP, (fun x8 hne0 hne1 hne2 hne3 => (fr225 x8 hne0 hne1 hne2 (by omega) (by omega) (by omega) (by omega)).trans (fr41 x8 hne0 hne1 hne2 hne3)), z226, z227, z228, z229, z230, z231, u232, ho235, ho236, ho237, hx_D.l (by omega) (by rw [← hprs, show (9000 - i.toInt).toNat = (8999 - i.toInt).toNat + 1 by omega, sp_prs_bad (b := (cl, vn, vc, lz)) (by omega) (by rw [sp_it_v (by omega)]; omega), sp_it_v (by omega)]; exact hF255), by omega, hp242, pk269, ⟨_, _, _, ho238, by omega, by omega, by omega⟩⟩ dX7_parse_139
            · have c254 : ¬ (r223).toInt = (0 : Int) := fun h9 => c254 (hq_eqi.mpr h9)
              obtain ⟨b270, ⟨b271, b272, hA273⟩, b274, b275, b276, b277⟩ := hx_D.neg hp240 (by omega)
              obtain ⟨b278, b279, b280, b281⟩ := id hA273
              have hln282 := sp_len1 vn (j + 1)
              have hta := hta0 (by omega)
              have pk283 := pk63.keep (fun x7 (hx7 : qb + 15 ≤ x7 ∧ x7 < qb + 15 + 2 * vn.length) => fr225 x7 (by omega) (by omega) (by omega) (by omega) (by omega) (by omega) (by omega))
              have pk284 := pk283.add (by omega) (by rw [← hta]; exact b275)
              obtain ⟨x9, hx9, hx8⟩ := b277
              have hln285 := sp_len1 vc ((sp_tv w cl vn j).2.2)
              have hVC9 := hx_VC.add hVC (hx9.trans (by rw [hvl]))
              rw [hx8] at hVC9
              have hge := sp_item_ge (w := w) (j := j) (cl, vn, vc, lz)
              rw [sp_it_v (by omega)] at hge
              dsimp only at hge
              refine lv_aload_n hx hb dX7_parse_117 rfl (lv_at hl 2 rfl) ?_
              refine lv_bipush (v := 20) hx hb dX7_parse_118 (by decide) ?_
              have hl286 : (20 : Int32).toInt = 20 := by decide
              have pk287 := pk57.keep (fr225 (kb) (hq_tne hy0 hy2 (by simp)) (hq_tne hy0 hy3 (by simp)) (hq_tne hy0 hy4 (by simp)) (hq_tne hy0 hy5 (by simp)) (hq_tne hy0 hy8 (by simp)) (by omega) (by omega)) (fr225 (kb + 1) (hq_tne hy1 hy2 (by simp)) (hq_tne hy1 hy3 (by simp)) (hq_tne hy1 hy4 (by simp)) (hq_tne hy1 hy5 (by simp)) (hq_tne hy1 hy8 (by simp)) (by omega) (by omega))
              refine hp_calli (hp_runV (As := [.int (20)]) (rest := []) hx hb hml hown hts (x_take l D cs B G V220 n hP.1 (kb) (qb) (w) ((sp_tv w cl vn j).2.1) (20) (20) (z226) (z227) (z228) (z229) (z230) hy0 hy1 hy2 ho235 pk287 hA273 (by decide) (by decide)) hZ ho235 cv_X7_58 rfl rfl ⟨Nat.le_of_ble_eq_true rfl, Nat.le_of_ble_eq_true rfl⟩ rfl hl.1 rfl (Nat.le_of_ble_eq_true rfl) dX7_parse_120 ⟨(Nat.le_of_ble_eq_true rfl), (Nat.le_of_ble_eq_true rfl)⟩) hZ (fun r291 V288 n289 _ _ hw290 hZ => ?_)
              obtain ⟨rfl, hq292, fr293, z294, z295, z296, z297, z298, ho299, hp300, hp301⟩ := hw290
              have b302 := hq_rng z294
              have b303 := hq_rng z295
              have b304 := hq_rng z296
              have b305 := hq_rng z297
              have b306 := hq_rng z298
              have hP := hP.trans hq292 (fun _ h => Bool.noConfusion h)
              have b307 := hq_rng r291
              refine lv_if_eq (tgt := 130) hx hb dX7_parse_123 (by decide) (fun c308 => ?_) (fun c308 => ?_)
              · have c308 : (r291).toInt = (0 : Int) := hq_eqi.mp c308
                have hF309 := hx_D.pos hp300 (by omega)
                have b310 := hF309.1
                have b311 := hF309.2.1
                refine lv_iconst (v := 0) hx hb dX7_parse_130 (by decide) ?_
                refine lv_istore_n (lv' := [(3, .int (0)), (4, .int (i)), (0, .ref (kb + 2)), (1, .ref (kb)), (2, .ref (qb))]) hx hb dX7_parse_131 rfl hl (by decide) rfl (fun ls hl => ?_)
                obtain ⟨y312, ey313⟩ : ∃ y : Int32, y = i + (1) := ⟨_, rfl⟩
                obtain ⟨k314, hk315, b316, b317⟩ := hq_add (i) (1)
                rw [← ey313] at hk315 b316 b317
                have hk315 : (y312).toInt = (i).toInt + (1) + k314 * 4294967296 := hk315
                obtain rfl : k314 = 0 := by omega
                refine lv_iinc (v := y312) (lv' := [(4, .int (y312)), (3, .int (0)), (0, .ref (kb + 2)), (1, .ref (kb)), (2, .ref (qb))]) hx hb dX7_parse_132 hl (k := 1) rfl (by rw [ey313]; rfl) (by decide) rfl (fun ls hl => ?_)
                refine lv_goto (tgt := 41) hx hb dX7_parse_135 (by decide) ?_
                refine lv_iload hx hb dX7_parse_41 (lv_at hl 0 rfl) ?_
                refine lv_sipush (v := 4000) hx hb dX7_parse_43 (by decide) ?_
                refine lv_icmp_gt (tgt := 138) hx hb dX7_parse_46 (by decide) (fun c318 => ?_) (fun c318 => ?_)
                · have c318 : (4000 : Int) < (y312).toInt := hq_lti.mp c318
                  refine lv_iload_n hx hb dX7_parse_138 rfl (lv_at hl 1 rfl) ?_
                  have hl319 : (0 : Int32).toInt = 0 := by decide
                  have fx320 : V288 (kb + 3) = some (.inr (9, [.ref (kb + 4), .int (z231)])) := (fr293 (kb + 3) (hq_tne hy3 hy2 (by simp))).trans (ho236)
                  have fx321 : V288 (kb + 4) = some (.inl (cs 0, 12, .inl (u232))) := (fr293 (kb + 4) (hq_tne hy4 hy2 (by simp))).trans (ho237)
                  have pk322 := hp242.keep (fun x7 (hx7 : qb + 2 ≤ x7 ∧ x7 < qb + 377) => fr293 x7 (by omega))
                  have pk323 := pk59.keep ((fr293 (qb + 1) (hq_tne hy6 hy2 (by simp))).trans (fr225 (qb + 1) (hq_tne hy6 hy2 (by simp)) (hq_tne hy6 hy3 (by simp)) (hq_tne hy6 hy4 (by simp)) (hq_tne hy6 hy5 (by simp)) (hq_tne hy6 hy8 (by simp)) (by omega) (by omega))) ((fr293 (qb + 14) (hq_tne hy7 hy2 (by simp))).trans (fr225 (qb + 14) (hq_tne hy7 hy2 (by simp)) (hq_tne hy7 hy3 (by simp)) (hq_tne hy7 hy4 (by simp)) (hq_tne hy7 hy5 (by simp)) (hq_tne hy7 hy8 (by simp)) (by omega) (by omega))) ((fr293 (qb + 76) (hq_tne hy9 hy2 (by simp))).trans (fr225 (qb + 76) (hq_tne hy9 hy2 (by simp)) (hq_tne hy9 hy3 (by simp)) (hq_tne hy9 hy4 (by simp)) (hq_tne hy9 hy5 (by simp)) (hq_tne hy9 hy8 (by simp)) (by omega) (by omega)))
                  have fx324 : V288 (qb) = some (.inr (0, [.ref (qb + 1), .int (bc9), .ref (qb + 14), .ref (qb + 75), .int (z233), .ref (qb + 76), .int (bl9)])) := (fr293 (qb) (hq_tne hy5 hy2 (by simp))).trans (ho238)
                  exact hp_zret hx hb hr rfl hlocks hZ ⟨rfl, hP, (fun x8 hne0 hne1 hne2 hne3 => (fr293 x8 hne0).trans ((fr225 x8 hne0 hne1 hne2 (by omega) (by omega) (by omega) (by omega)).trans (fr41 x8 hne0 hne1 hne2 hne3))), z294, z295, z296, z297, z298, z231, u232, ho299, fx320, fx321, hx_D.l (by omega) (by rw [← hprs, show (9000 - i.toInt).toNat = (8999 - i.toInt).toNat + 1 by omega, sp_prs_semi (b := (cl, vn, vc, lz)) (by omega) (by rw [sp_it_v (by omega)]; omega) (by rw [sp_it_v (by omega)]; omega), sp_it_v (by omega)]; exact hF309), by omega, pk322, pk323, ⟨_, _, _, fx324, by omega, by omega, by omega⟩⟩ dX7_parse_139
                · have c318 : ¬ (4000 : Int) < (y312).toInt := fun h9 => c318 (hq_lti.mpr h9)
                  refine lv_iload_n hx hb dX7_parse_49 rfl (lv_at hl 1 rfl) ?_
                  refine lv_if_eq (tgt := 138) hx hb dX7_parse_50 (by decide) (fun c325 => ?_) (fun c325 => absurd (by decide) c325)
                  refine lv_iload_n hx hb dX7_parse_138 rfl (lv_at hl 1 rfl) ?_
                  have hl326 : (0 : Int32).toInt = 0 := by decide
                  have fx327 : V288 (kb + 3) = some (.inr (9, [.ref (kb + 4), .int (z231)])) := (fr293 (kb + 3) (hq_tne hy3 hy2 (by simp))).trans (ho236)
                  have fx328 : V288 (kb + 4) = some (.inl (cs 0, 12, .inl (u232))) := (fr293 (kb + 4) (hq_tne hy4 hy2 (by simp))).trans (ho237)
                  have pk329 := hp242.keep (fun x7 (hx7 : qb + 2 ≤ x7 ∧ x7 < qb + 377) => fr293 x7 (by omega))
                  have pk330 := pk59.keep ((fr293 (qb + 1) (hq_tne hy6 hy2 (by simp))).trans (fr225 (qb + 1) (hq_tne hy6 hy2 (by simp)) (hq_tne hy6 hy3 (by simp)) (hq_tne hy6 hy4 (by simp)) (hq_tne hy6 hy5 (by simp)) (hq_tne hy6 hy8 (by simp)) (by omega) (by omega))) ((fr293 (qb + 14) (hq_tne hy7 hy2 (by simp))).trans (fr225 (qb + 14) (hq_tne hy7 hy2 (by simp)) (hq_tne hy7 hy3 (by simp)) (hq_tne hy7 hy4 (by simp)) (hq_tne hy7 hy5 (by simp)) (hq_tne hy7 hy8 (by simp)) (by omega) (by omega))) ((fr293 (qb + 76) (hq_tne hy9 hy2 (by simp))).trans (fr225 (qb + 76) (hq_tne hy9 hy2 (by simp)) (hq_tne hy9 hy3 (by simp)) (hq_tne hy9 hy4 (by simp)) (hq_tne hy9 hy5 (by simp)) (hq_tne hy9 hy8 (by simp)) (by omega) (by omega)))
                  have fx331 : V288 (qb) = some (.inr (0, [.ref (qb + 1), .int (bc9), .ref (qb + 14), .ref (qb + 75), .int (z233), .ref (qb + 76), .int (bl9)])) := (fr293 (qb) (hq_tne hy5 hy2 (by simp))).trans (ho238)
                  exact hp_zret hx hb hr rfl hlocks hZ ⟨rfl, hP, (fun x8 hne0 hne1 hne2 hne3 => (fr293 x8 hne0).trans ((fr225 x8 hne0 hne1 hne2 (by omega) (by omega) (by omega) (by omega)).trans (fr41 x8 hne0 hne1 hne2 hne3))), z294, z295, z296, z297, z298, z231, u232, ho299, fx327, fx328, hx_D.l (by omega) (by rw [← hprs, show (9000 - i.toInt).toNat = (8999 - i.toInt).toNat + 1 by omega, sp_prs_semi (b := (cl, vn, vc, lz)) (by omega) (by rw [sp_it_v (by omega)]; omega) (by rw [sp_it_v (by omega)]; omega), sp_it_v (by omega)]; exact hF309), by omega, pk329, pk330, ⟨_, _, _, fx331, by omega, by omega, by omega⟩⟩ dX7_parse_139
              · have c308 : ¬ (r291).toInt = (0 : Int) := fun h9 => c308 (hq_eqi.mpr h9)
                obtain ⟨b332, ⟨b333, b334, hA335⟩⟩ := hx_D.neg hp300 (by omega)
                obtain ⟨b336, b337, b338, b339⟩ := id hA335
                refine lv_iconst (v := 1) hx hb dX7_parse_126 (by decide) ?_
                refine lv_goto (tgt := 131) hx hb dX7_parse_127 (by decide) ?_
                refine lv_istore_n (lv' := [(3, .int (1)), (4, .int (i)), (0, .ref (kb + 2)), (1, .ref (kb)), (2, .ref (qb))]) hx hb dX7_parse_131 rfl hl (by decide) rfl (fun ls hl => ?_)
                obtain ⟨y340, ey341⟩ : ∃ y : Int32, y = i + (1) := ⟨_, rfl⟩
                obtain ⟨k342, hk343, b344, b345⟩ := hq_add (i) (1)
                rw [← ey341] at hk343 b344 b345
                have hk343 : (y340).toInt = (i).toInt + (1) + k342 * 4294967296 := hk343
                obtain rfl : k342 = 0 := by omega
                refine lv_iinc (v := y340) (lv' := [(4, .int (y340)), (3, .int (1)), (0, .ref (kb + 2)), (1, .ref (kb)), (2, .ref (qb))]) hx hb dX7_parse_132 hl (k := 1) rfl (by rw [ey341]; rfl) (by decide) rfl (fun ls hl => ?_)
                refine lv_goto (tgt := 41) hx hb dX7_parse_135 (by decide) ?_
                have fx346 : V288 (kb + 3) = some (.inr (9, [.ref (kb + 4), .int (z231)])) := (fr293 (kb + 3) (hq_tne hy3 hy2 (by simp))).trans (ho236)
                have fx347 : V288 (kb + 4) = some (.inl (cs 0, 12, .inl (u232))) := (fr293 (kb + 4) (hq_tne hy4 hy2 (by simp))).trans (ho237)
                have fx348 : V288 (qb) = some (.inr (0, [.ref (qb + 1), .int (bc9), .ref (qb + 14), .ref (qb + 75), .int (z233), .ref (qb + 76), .int (bl9)])) := (fr293 (qb) (hq_tne hy5 hy2 (by simp))).trans (ho238)
                have fx349 : V288 (qb + 75) = some (.inl (cs 1, 30, .inl (u234))) := (fr293 (qb + 75) (hq_tne hy8 hy2 (by simp))).trans (ho239)
                have pk350 := pk287.keep (fr293 (kb) (hq_tne hy0 hy2 (by simp))) (fr293 (kb + 1) (hq_tne hy1 hy2 (by simp)))
                have pk351 := pk59.keep ((fr293 (qb + 1) (hq_tne hy6 hy2 (by simp))).trans (fr225 (qb + 1) (hq_tne hy6 hy2 (by simp)) (hq_tne hy6 hy3 (by simp)) (hq_tne hy6 hy4 (by simp)) (hq_tne hy6 hy5 (by simp)) (hq_tne hy6 hy8 (by simp)) (by omega) (by omega))) ((fr293 (qb + 14) (hq_tne hy7 hy2 (by simp))).trans (fr225 (qb + 14) (hq_tne hy7 hy2 (by simp)) (hq_tne hy7 hy3 (by simp)) (hq_tne hy7 hy4 (by simp)) (hq_tne hy7 hy5 (by simp)) (hq_tne hy7 hy8 (by simp)) (by omega) (by omega))) ((fr293 (qb + 76) (hq_tne hy9 hy2 (by simp))).trans (fr225 (qb + 76) (hq_tne hy9 hy2 (by simp)) (hq_tne hy9 hy3 (by simp)) (hq_tne hy9 hy4 (by simp)) (hq_tne hy9 hy5 (by simp)) (hq_tne hy9 hy8 (by simp)) (by omega) (by omega)))
                have pk352 := hp242.keep (fun x7 (hx7 : qb + 2 ≤ x7 ∧ x7 < qb + 377) => fr293 x7 (by omega))
                have pk353 := pk62.keep (fun x7 (hx7 : qb + 2 ≤ x7 ∧ x7 < qb + 2 + 2 * cl.length) => (fr293 x7 (by omega)).trans (fr225 x7 (by omega) (by omega) (by omega) (by omega) (by omega) (by omega) (by omega)))
                have pk354 := pk284.keep (fun x7 (hx7 : qb + 15 ≤ x7 ∧ x7 < qb + 15 + 2 * (vn ++ [j + 1]).length) => fr293 x7 (by omega))
                have pk355 := pk64.keep (fun x7 (hx7 : qb + 77 ≤ x7 ∧ x7 < qb + 77 + 5 * lz.length) => (fr293 x7 (by omega)).trans (fr225 x7 (by omega) (by omega) (by omega) (by omega) (by omega) (by omega) (by omega)))
                exact ih41 _ (by omega) _ _ _ ls (y340) ((sp_take w 20 ((sp_tv w cl vn j).2.1)).2) (cl) ((vn ++ [j + 1])) ((vc ++ [(sp_tv w cl vn j).2.2])) (lz) (z294) (z295) (z296) (z297) (z298) (z231) (u232) (bc9) (z233) (bl9) (u234) rfl hZ hP ho299 fx346 fx347 fx348 fx349 (fun x8 hne0 hne1 hne2 hne3 => (fr293 x8 hne0).trans ((fr225 x8 hne0 hne1 hne2 (by omega) (by omega) (by omega) (by omega)).trans (fr41 x8 hne0 hne1 hne2 hne3))) pk350 pk351 pk352 pk353 pk354 pk355 (by omega) (by have h8 := (sp_take_j (w := w) (d := 20) (j := (sp_tv w cl vn j).2.1) (by omega)).1; have h9 := sp_s_mono2 w (j := j) (k := (sp_take w 20 ((sp_tv w cl vn j).2.1)).2) (by omega); omega) (hA335) (by omega) (by omega) (by omega) (by omega) (by omega) (by omega) (hVC9) (by rw [← hprs, show (9000 - i.toInt).toNat = (9000 - (y340).toInt).toNat + 1 by omega, sp_prs_ok (b := (cl, vn, vc, lz)) (by omega) (by rw [sp_it_v (by omega)]; omega) (by rw [sp_it_v (by omega)]; omega), sp_it_v (by omega)]) (lv_sub hl [0, 1, 2, 3, 4] rfl)
          ·
            have z356 : ¬ (tk9).toInt = 6 := lv_neT h85 (by decide)
            have z357 : ¬ (tk9).toInt = 7 := lv_neT h218 (by decide)
            refine lv_lookup (off := 42) (tgt := 108) hx hb dX7_parse_66 (by decide) ((lv_osw h85 (by decide)).trans ((lv_osw h218 (by decide)).trans (rfl))) (by decide) ?_
            obtain ⟨it, hit0, hit2⟩ : ∃ it, (lz.length < 60 → it = qb + 77 + 5 * lz.length) ∧ (qb + 77 ≤ it ∧ it + 5 ≤ qb + 377) := by by_cases h9 : lz.length < 60; (· exact ⟨qb + 77 + 5 * lz.length, fun _ => rfl, by omega⟩); (· exact ⟨qb + 77, fun h8 => absurd h8 h9, by omega⟩)
            refine lv_aload_n hx hb dX7_parse_108 rfl (lv_at hl 2 rfl) ?_
            refine hp_calli (hp_runV (As := []) (rest := []) hx hb hml hown hts (x_takeLine l D cs B G V9 n hP.1 (kb) (qb) (w) (it) (bb) (j) (cl) (vn) (vc) (lz) (fk9) (fp9) (nx9) (tk9) (st9) (nz9) (nf9) (bc9) (bv9) (bl9) hy0 hy1 hy2 hy3 hy4 hy5 hy6 hy7 hy8 hy9 ho47 ho49 ho51 ho53 pk57 pk59 pk62 pk63 pk64 pk61 hA hq (by omega) (by omega) (by omega) hBT hit0 hit2) hZ ho47 cv_X7_55 rfl rfl ⟨Nat.le_of_ble_eq_true rfl, Nat.le_of_ble_eq_true rfl⟩ rfl hl.1 rfl (Nat.le_of_ble_eq_true rfl) dX7_parse_109 ⟨(Nat.le_of_ble_eq_true rfl), (Nat.le_of_ble_eq_true rfl)⟩) hZ (fun r361 V358 n359 _ _ hw360 hZ => ?_)
            obtain ⟨rfl, hq362, fr363, z364, z365, z366, z367, z368, z369, u370, z371, ho372, ho373, ho374, ho375, hp376, hp377, hp378, hp379⟩ := hw360
            have b380 := hq_rng z364
            have b381 := hq_rng z365
            have b382 := hq_rng z366
            have b383 := hq_rng z367
            have b384 := hq_rng z368
            have b385 := hq_rng z369
            have b386 := hq_rng z371
            have hP := hP.trans hq362 (fun _ h => Bool.noConfusion h)
            have hf387 := hq_rgB hP.1 hy4 ho374
            have b388 := hq_rng r361
            refine lv_istore_n (lv' := [(3, .int (r361)), (4, .int (i)), (0, .ref (kb + 2)), (1, .ref (kb)), (2, .ref (qb))]) hx hb dX7_parse_112 rfl hl (by decide) rfl (fun ls hl => ?_)
            refine lv_iload_n hx hb dX7_parse_113 rfl (lv_at hl 0 rfl) ?_
            refine lv_if_eq (tgt := 130) hx hb dX7_parse_114 (by decide) (fun c389 => ?_) (fun c389 => ?_)
            · have c389 : (r361).toInt = (0 : Int) := hq_eqi.mp c389
              have hF390 := hx_D.pos hp376 (by omega)
              have b391 := hF390.1
              have b392 := hF390.2.1
              refine lv_iconst (v := 0) hx hb dX7_parse_130 (by decide) ?_
              refine lv_istore_n (lv' := [(3, .int (0)), (4, .int (i)), (0, .ref (kb + 2)), (1, .ref (kb)), (2, .ref (qb))]) hx hb dX7_parse_131 rfl hl (by decide) rfl (fun ls hl => ?_)
              obtain ⟨y393, ey394⟩ : ∃ y : Int32, y = i + (1) := ⟨_, rfl⟩
              obtain ⟨k395, hk396, b397, b398⟩ := hq_add (i) (1)
              rw [← ey394] at hk396 b397 b398
              have hk396 : (y393).toInt = (i).toInt + (1) + k395 * 4294967296 := hk396
              obtain rfl : k395 = 0 := by omega
              refine lv_iinc (v := y393) (lv' := [(4, .int (y393)), (3, .int (0)), (0, .ref (kb + 2)), (1, .ref (kb)), (2, .ref (qb))]) hx hb dX7_parse_132 hl (k := 1) rfl (by rw [ey394]; rfl) (by decide) rfl (fun ls hl => ?_)
              refine lv_goto (tgt := 41) hx hb dX7_parse_135 (by decide) ?_
              refine lv_iload hx hb dX7_parse_41 (lv_at hl 0 rfl) ?_
              refine lv_sipush (v := 4000) hx hb dX7_parse_43 (by decide) ?_
              refine lv_icmp_gt (tgt := 138) hx hb dX7_parse_46 (by decide) (fun c399 => ?_) (fun c399 => ?_)
              · have c399 : (4000 : Int) < (y393).toInt := hq_lti.mp c399
                refine lv_iload_n hx hb dX7_parse_138 rfl (lv_at hl 1 rfl) ?_
                have hl400 : (0 : Int32).toInt = 0 := by decide
                have pk401 := pk59.keep (fr363 (qb + 1) (hq_tne hy6 hy2 (by simp)) (hq_tne hy6 hy3 (by simp)) (hq_tne hy6 hy4 (by simp)) (hq_tne hy6 hy5 (by simp)) (by omega) (by omega) (by omega) (by omega) (by omega)) (fr363 (qb + 14) (hq_tne hy7 hy2 (by simp)) (hq_tne hy7 hy3 (by simp)) (hq_tne hy7 hy4 (by simp)) (hq_tne hy7 hy5 (by simp)) (by omega) (by omega) (by omega) (by omega) (by omega)) (fr363 (qb + 76) (hq_tne hy9 hy2 (by simp)) (hq_tne hy9 hy3 (by simp)) (hq_tne hy9 hy4 (by simp)) (hq_tne hy9 hy5 (by simp)) (by omega) (by omega) (by omega) (by omega) (by omega))
                exact hp_zret hx hb hr rfl hlocks hZ ⟨rfl, hP, (fun x8 hne0 hne1 hne2 hne3 => (fr363 x8 hne0 hne1 hne2 (by omega) (by omega) (by omega) (by omega) (by omega) (by omega)).trans (fr41 x8 hne0 hne1 hne2 hne3)), z364, z365, z366, z367, z368, z369, u370, ho372, ho373, ho374, hx_D.l (by omega) (by rw [← hprs, show (9000 - i.toInt).toNat = (8999 - i.toInt).toNat + 1 by omega, sp_prs_bad (b := (cl, vn, vc, lz)) (by omega) (by rw [sp_it_l (by omega) (by omega)]; omega), sp_it_l (by omega) (by omega)]; exact hF390), by omega, hp378, pk401, ⟨_, _, _, ho375, by omega, by omega, by omega⟩⟩ dX7_parse_139
              · have c399 : ¬ (4000 : Int) < (y393).toInt := fun h9 => c399 (hq_lti.mpr h9)
                refine lv_iload_n hx hb dX7_parse_49 rfl (lv_at hl 1 rfl) ?_
                refine lv_if_eq (tgt := 138) hx hb dX7_parse_50 (by decide) (fun c402 => ?_) (fun c402 => absurd (by decide) c402)
                refine lv_iload_n hx hb dX7_parse_138 rfl (lv_at hl 1 rfl) ?_
                have hl403 : (0 : Int32).toInt = 0 := by decide
                have pk404 := pk59.keep (fr363 (qb + 1) (hq_tne hy6 hy2 (by simp)) (hq_tne hy6 hy3 (by simp)) (hq_tne hy6 hy4 (by simp)) (hq_tne hy6 hy5 (by simp)) (by omega) (by omega) (by omega) (by omega) (by omega)) (fr363 (qb + 14) (hq_tne hy7 hy2 (by simp)) (hq_tne hy7 hy3 (by simp)) (hq_tne hy7 hy4 (by simp)) (hq_tne hy7 hy5 (by simp)) (by omega) (by omega) (by omega) (by omega) (by omega)) (fr363 (qb + 76) (hq_tne hy9 hy2 (by simp)) (hq_tne hy9 hy3 (by simp)) (hq_tne hy9 hy4 (by simp)) (hq_tne hy9 hy5 (by simp)) (by omega) (by omega) (by omega) (by omega) (by omega))
                exact hp_zret hx hb hr rfl hlocks hZ ⟨rfl, hP, (fun x8 hne0 hne1 hne2 hne3 => (fr363 x8 hne0 hne1 hne2 (by omega) (by omega) (by omega) (by omega) (by omega) (by omega)).trans (fr41 x8 hne0 hne1 hne2 hne3)), z364, z365, z366, z367, z368, z369, u370, ho372, ho373, ho374, hx_D.l (by omega) (by rw [← hprs, show (9000 - i.toInt).toNat = (8999 - i.toInt).toNat + 1 by omega, sp_prs_bad (b := (cl, vn, vc, lz)) (by omega) (by rw [sp_it_l (by omega) (by omega)]; omega), sp_it_l (by omega) (by omega)]; exact hF390), by omega, hp378, pk404, ⟨_, _, _, ho375, by omega, by omega, by omega⟩⟩ dX7_parse_139
            · have c389 : ¬ (r361).toInt = (0 : Int) := fun h9 => c389 (hq_eqi.mpr h9)
              obtain ⟨b405, ⟨b406, b407, hA408⟩, b409, b410, b411⟩ := hx_D.neg hp376 (by omega)
              obtain ⟨b412, b413, b414, b415⟩ := id hA408
              have hln416 := sp_len1 lz ((sp_tl w (cl, vn, vc, lz) j).2.2)
              have hit := hit0 (by omega)
              have pk417 := pk64.keep (fun x7 (hx7 : qb + 77 ≤ x7 ∧ x7 < qb + 77 + 5 * lz.length) => fr363 x7 (by omega) (by omega) (by omega) (by omega) (by omega) (by omega) (by omega) (by omega) (by omega))
              have pk418 := pk417.add (by omega) (by rw [← hit]; exact b410)
              have hge := sp_item_ge (w := w) (j := j) (cl, vn, vc, lz)
              rw [sp_it_l (by omega) (by omega)] at hge
              dsimp only at hge
              refine lv_aload_n hx hb dX7_parse_117 rfl (lv_at hl 2 rfl) ?_
              refine lv_bipush (v := 20) hx hb dX7_parse_118 (by decide) ?_
              have hl419 : (20 : Int32).toInt = 20 := by decide
              have pk420 := pk57.keep (fr363 (kb) (hq_tne hy0 hy2 (by simp)) (hq_tne hy0 hy3 (by simp)) (hq_tne hy0 hy4 (by simp)) (hq_tne hy0 hy5 (by simp)) (by omega) (by omega) (by omega) (by omega) (by omega)) (fr363 (kb + 1) (hq_tne hy1 hy2 (by simp)) (hq_tne hy1 hy3 (by simp)) (hq_tne hy1 hy4 (by simp)) (hq_tne hy1 hy5 (by simp)) (by omega) (by omega) (by omega) (by omega) (by omega))
              refine hp_calli (hp_runV (As := [.int (20)]) (rest := []) hx hb hml hown hts (x_take l D cs B G V358 n hP.1 (kb) (qb) (w) ((sp_tl w (cl, vn, vc, lz) j).2.1) (20) (20) (z364) (z365) (z366) (z367) (z368) hy0 hy1 hy2 ho372 pk420 hA408 (by decide) (by decide)) hZ ho372 cv_X7_58 rfl rfl ⟨Nat.le_of_ble_eq_true rfl, Nat.le_of_ble_eq_true rfl⟩ rfl hl.1 rfl (Nat.le_of_ble_eq_true rfl) dX7_parse_120 ⟨(Nat.le_of_ble_eq_true rfl), (Nat.le_of_ble_eq_true rfl)⟩) hZ (fun r424 V421 n422 _ _ hw423 hZ => ?_)
              obtain ⟨rfl, hq425, fr426, z427, z428, z429, z430, z431, ho432, hp433, hp434⟩ := hw423
              have b435 := hq_rng z427
              have b436 := hq_rng z428
              have b437 := hq_rng z429
              have b438 := hq_rng z430
              have b439 := hq_rng z431
              have hP := hP.trans hq425 (fun _ h => Bool.noConfusion h)
              have b440 := hq_rng r424
              refine lv_if_eq (tgt := 130) hx hb dX7_parse_123 (by decide) (fun c441 => ?_) (fun c441 => ?_)
              · have c441 : (r424).toInt = (0 : Int) := hq_eqi.mp c441
                have hF442 := hx_D.pos hp433 (by omega)
                have b443 := hF442.1
                have b444 := hF442.2.1
                refine lv_iconst (v := 0) hx hb dX7_parse_130 (by decide) ?_
                refine lv_istore_n (lv' := [(3, .int (0)), (4, .int (i)), (0, .ref (kb + 2)), (1, .ref (kb)), (2, .ref (qb))]) hx hb dX7_parse_131 rfl hl (by decide) rfl (fun ls hl => ?_)
                obtain ⟨y445, ey446⟩ : ∃ y : Int32, y = i + (1) := ⟨_, rfl⟩
                obtain ⟨k447, hk448, b449, b450⟩ := hq_add (i) (1)
                rw [← ey446] at hk448 b449 b450
                have hk448 : (y445).toInt = (i).toInt + (1) + k447 * 4294967296 := hk448
                obtain rfl : k447 = 0 := by omega
                refine lv_iinc (v := y445) (lv' := [(4, .int (y445)), (3, .int (0)), (0, .ref (kb + 2)), (1, .ref (kb)), (2, .ref (qb))]) hx hb dX7_parse_132 hl (k := 1) rfl (by rw [ey446]; rfl) (by decide) rfl (fun ls hl => ?_)
                refine lv_goto (tgt := 41) hx hb dX7_parse_135 (by decide) ?_
                refine lv_iload hx hb dX7_parse_41 (lv_at hl 0 rfl) ?_
                refine lv_sipush (v := 4000) hx hb dX7_parse_43 (by decide) ?_
                refine lv_icmp_gt (tgt := 138) hx hb dX7_parse_46 (by decide) (fun c451 => ?_) (fun c451 => ?_)
                · have c451 : (4000 : Int) < (y445).toInt := hq_lti.mp c451
                  refine lv_iload_n hx hb dX7_parse_138 rfl (lv_at hl 1 rfl) ?_
                  have hl452 : (0 : Int32).toInt = 0 := by decide
                  have fx453 : V421 (kb + 3) = some (.inr (9, [.ref (kb + 4), .int (z369)])) := (fr426 (kb + 3) (hq_tne hy3 hy2 (by simp))).trans (ho373)
                  have fx454 : V421 (kb + 4) = some (.inl (cs 0, 12, .inl (u370))) := (fr426 (kb + 4) (hq_tne hy4 hy2 (by simp))).trans (ho374)
                  have pk455 := hp378.keep (fun x7 (hx7 : qb + 2 ≤ x7 ∧ x7 < qb + 377) => fr426 x7 (by omega))
                  have pk456 := pk59.keep ((fr426 (qb + 1) (hq_tne hy6 hy2 (by simp))).trans (fr363 (qb + 1) (hq_tne hy6 hy2 (by simp)) (hq_tne hy6 hy3 (by simp)) (hq_tne hy6 hy4 (by simp)) (hq_tne hy6 hy5 (by simp)) (by omega) (by omega) (by omega) (by omega) (by omega))) ((fr426 (qb + 14) (hq_tne hy7 hy2 (by simp))).trans (fr363 (qb + 14) (hq_tne hy7 hy2 (by simp)) (hq_tne hy7 hy3 (by simp)) (hq_tne hy7 hy4 (by simp)) (hq_tne hy7 hy5 (by simp)) (by omega) (by omega) (by omega) (by omega) (by omega))) ((fr426 (qb + 76) (hq_tne hy9 hy2 (by simp))).trans (fr363 (qb + 76) (hq_tne hy9 hy2 (by simp)) (hq_tne hy9 hy3 (by simp)) (hq_tne hy9 hy4 (by simp)) (hq_tne hy9 hy5 (by simp)) (by omega) (by omega) (by omega) (by omega) (by omega)))
                  have fx457 : V421 (qb) = some (.inr (0, [.ref (qb + 1), .int (bc9), .ref (qb + 14), .ref (qb + 75), .int (bv9), .ref (qb + 76), .int (z371)])) := (fr426 (qb) (hq_tne hy5 hy2 (by simp))).trans (ho375)
                  exact hp_zret hx hb hr rfl hlocks hZ ⟨rfl, hP, (fun x8 hne0 hne1 hne2 hne3 => (fr426 x8 hne0).trans ((fr363 x8 hne0 hne1 hne2 (by omega) (by omega) (by omega) (by omega) (by omega) (by omega)).trans (fr41 x8 hne0 hne1 hne2 hne3))), z427, z428, z429, z430, z431, z369, u370, ho432, fx453, fx454, hx_D.l (by omega) (by rw [← hprs, show (9000 - i.toInt).toNat = (8999 - i.toInt).toNat + 1 by omega, sp_prs_semi (b := (cl, vn, vc, lz)) (by omega) (by rw [sp_it_l (by omega) (by omega)]; omega) (by rw [sp_it_l (by omega) (by omega)]; omega), sp_it_l (by omega) (by omega)]; exact hF442), by omega, pk455, pk456, ⟨_, _, _, fx457, by omega, by omega, by omega⟩⟩ dX7_parse_139
                · have c451 : ¬ (4000 : Int) < (y445).toInt := fun h9 => c451 (hq_lti.mpr h9)
                  refine lv_iload_n hx hb dX7_parse_49 rfl (lv_at hl 1 rfl) ?_
                  refine lv_if_eq (tgt := 138) hx hb dX7_parse_50 (by decide) (fun c458 => ?_) (fun c458 => absurd (by decide) c458)
                  refine lv_iload_n hx hb dX7_parse_138 rfl (lv_at hl 1 rfl) ?_
                  have hl459 : (0 : Int32).toInt = 0 := by decide
                  have fx460 : V421 (kb + 3) = some (.inr (9, [.ref (kb + 4), .int (z369)])) := (fr426 (kb + 3) (hq_tne hy3 hy2 (by simp))).trans (ho373)
                  have fx461 : V421 (kb + 4) = some (.inl (cs 0, 12, .inl (u370))) := (fr426 (kb + 4) (hq_tne hy4 hy2 (by simp))).trans (ho374)
                  have pk462 := hp378.keep (fun x7 (hx7 : qb + 2 ≤ x7 ∧ x7 < qb + 377) => fr426 x7 (by omega))
                  have pk463 := pk59.keep ((fr426 (qb + 1) (hq_tne hy6 hy2 (by simp))).trans (fr363 (qb + 1) (hq_tne hy6 hy2 (by simp)) (hq_tne hy6 hy3 (by simp)) (hq_tne hy6 hy4 (by simp)) (hq_tne hy6 hy5 (by simp)) (by omega) (by omega) (by omega) (by omega) (by omega))) ((fr426 (qb + 14) (hq_tne hy7 hy2 (by simp))).trans (fr363 (qb + 14) (hq_tne hy7 hy2 (by simp)) (hq_tne hy7 hy3 (by simp)) (hq_tne hy7 hy4 (by simp)) (hq_tne hy7 hy5 (by simp)) (by omega) (by omega) (by omega) (by omega) (by omega))) ((fr426 (qb + 76) (hq_tne hy9 hy2 (by simp))).trans (fr363 (qb + 76) (hq_tne hy9 hy2 (by simp)) (hq_tne hy9 hy3 (by simp)) (hq_tne hy9 hy4 (by simp)) (hq_tne hy9 hy5 (by simp)) (by omega) (by omega) (by omega) (by omega) (by omega)))
                  have fx464 : V421 (qb) = some (.inr (0, [.ref (qb + 1), .int (bc9), .ref (qb + 14), .ref (qb + 75), .int (bv9), .ref (qb + 76), .int (z371)])) := (fr426 (qb) (hq_tne hy5 hy2 (by simp))).trans (ho375)
                  exact hp_zret hx hb hr rfl hlocks hZ ⟨rfl, hP, (fun x8 hne0 hne1 hne2 hne3 => (fr426 x8 hne0).trans ((fr363 x8 hne0 hne1 hne2 (by omega) (by omega) (by omega) (by omega) (by omega) (by omega)).trans (fr41 x8 hne0 hne1 hne2 hne3))), z427, z428, z429, z430, z431, z369, u370, ho432, fx460, fx461, hx_D.l (by omega) (by rw [← hprs, show (9000 - i.toInt).toNat = (8999 - i.toInt).toNat + 1 by omega, sp_prs_semi (b := (cl, vn, vc, lz)) (by omega) (by rw [sp_it_l (by omega) (by omega)]; omega) (by rw [sp_it_l (by omega) (by omega)]; omega), sp_it_l (by omega) (by omega)]; exact hF442), by omega, pk462, pk463, ⟨_, _, _, fx464, by omega, by omega, by omega⟩⟩ dX7_parse_139
              · have c441 : ¬ (r424).toInt = (0 : Int) := fun h9 => c441 (hq_eqi.mpr h9)
                obtain ⟨b465, ⟨b466, b467, hA468⟩⟩ := hx_D.neg hp433 (by omega)
                obtain ⟨b469, b470, b471, b472⟩ := id hA468
                refine lv_iconst (v := 1) hx hb dX7_parse_126 (by decide) ?_
                refine lv_goto (tgt := 131) hx hb dX7_parse_127 (by decide) ?_
                refine lv_istore_n (lv' := [(3, .int (1)), (4, .int (i)), (0, .ref (kb + 2)), (1, .ref (kb)), (2, .ref (qb))]) hx hb dX7_parse_131 rfl hl (by decide) rfl (fun ls hl => ?_)
                obtain ⟨y473, ey474⟩ : ∃ y : Int32, y = i + (1) := ⟨_, rfl⟩
                obtain ⟨k475, hk476, b477, b478⟩ := hq_add (i) (1)
                rw [← ey474] at hk476 b477 b478
                have hk476 : (y473).toInt = (i).toInt + (1) + k475 * 4294967296 := hk476
                obtain rfl : k475 = 0 := by omega
                refine lv_iinc (v := y473) (lv' := [(4, .int (y473)), (3, .int (1)), (0, .ref (kb + 2)), (1, .ref (kb)), (2, .ref (qb))]) hx hb dX7_parse_132 hl (k := 1) rfl (by rw [ey474]; rfl) (by decide) rfl (fun ls hl => ?_)
                refine lv_goto (tgt := 41) hx hb dX7_parse_135 (by decide) ?_
                have fx479 : V421 (kb + 3) = some (.inr (9, [.ref (kb + 4), .int (z369)])) := (fr426 (kb + 3) (hq_tne hy3 hy2 (by simp))).trans (ho373)
                have fx480 : V421 (kb + 4) = some (.inl (cs 0, 12, .inl (u370))) := (fr426 (kb + 4) (hq_tne hy4 hy2 (by simp))).trans (ho374)
                have fx481 : V421 (qb) = some (.inr (0, [.ref (qb + 1), .int (bc9), .ref (qb + 14), .ref (qb + 75), .int (bv9), .ref (qb + 76), .int (z371)])) := (fr426 (qb) (hq_tne hy5 hy2 (by simp))).trans (ho375)
                have fx482 : V421 (qb + 75) = some (.inl (cs 1, 30, .inl (vf9))) := (fr426 (qb + 75) (hq_tne hy8 hy2 (by simp))).trans ((fr363 (qb + 75) (hq_tne hy8 hy2 (by simp)) (hq_tne hy8 hy3 (by simp)) (hq_tne hy8 hy4 (by simp)) (hq_tne hy8 hy5 (by simp)) (by omega) (by omega) (by omega) (by omega) (by omega)).trans (ho55))
                have pk483 := pk420.keep (fr426 (kb) (hq_tne hy0 hy2 (by simp))) (fr426 (kb + 1) (hq_tne hy1 hy2 (by simp)))
                have pk484 := pk59.keep ((fr426 (qb + 1) (hq_tne hy6 hy2 (by simp))).trans (fr363 (qb + 1) (hq_tne hy6 hy2 (by simp)) (hq_tne hy6 hy3 (by simp)) (hq_tne hy6 hy4 (by simp)) (hq_tne hy6 hy5 (by simp)) (by omega) (by omega) (by omega) (by omega) (by omega))) ((fr426 (qb + 14) (hq_tne hy7 hy2 (by simp))).trans (fr363 (qb + 14) (hq_tne hy7 hy2 (by simp)) (hq_tne hy7 hy3 (by simp)) (hq_tne hy7 hy4 (by simp)) (hq_tne hy7 hy5 (by simp)) (by omega) (by omega) (by omega) (by omega) (by omega))) ((fr426 (qb + 76) (hq_tne hy9 hy2 (by simp))).trans (fr363 (qb + 76) (hq_tne hy9 hy2 (by simp)) (hq_tne hy9 hy3 (by simp)) (hq_tne hy9 hy4 (by simp)) (hq_tne hy9 hy5 (by simp)) (by omega) (by omega) (by omega) (by omega) (by omega)))
                have pk485 := hp378.keep (fun x7 (hx7 : qb + 2 ≤ x7 ∧ x7 < qb + 377) => fr426 x7 (by omega))
                have pk486 := pk62.keep (fun x7 (hx7 : qb + 2 ≤ x7 ∧ x7 < qb + 2 + 2 * cl.length) => (fr426 x7 (by omega)).trans (fr363 x7 (by omega) (by omega) (by omega) (by omega) (by omega) (by omega) (by omega) (by omega) (by omega)))
                have pk487 := pk63.keep (fun x7 (hx7 : qb + 15 ≤ x7 ∧ x7 < qb + 15 + 2 * vn.length) => (fr426 x7 (by omega)).trans (fr363 x7 (by omega) (by omega) (by omega) (by omega) (by omega) (by omega) (by omega) (by omega) (by omega)))
                have pk488 := pk418.keep (fun x7 (hx7 : qb + 77 ≤ x7 ∧ x7 < qb + 77 + 5 * (lz ++ [(sp_tl w (cl, vn, vc, lz) j).2.2]).length) => fr426 x7 (by omega))
                exact ih41 _ (by omega) _ _ _ ls (y473) ((sp_take w 20 ((sp_tl w (cl, vn, vc, lz) j).2.1)).2) (cl) (vn) (vc) ((lz ++ [(sp_tl w (cl, vn, vc, lz) j).2.2])) (z427) (z428) (z429) (z430) (z431) (z369) (u370) (bc9) (bv9) (z371) (vf9) rfl hZ hP ho432 fx479 fx480 fx481 fx482 (fun x8 hne0 hne1 hne2 hne3 => (fr426 x8 hne0).trans ((fr363 x8 hne0 hne1 hne2 (by omega) (by omega) (by omega) (by omega) (by omega) (by omega)).trans (fr41 x8 hne0 hne1 hne2 hne3))) pk483 pk484 pk485 pk486 pk487 pk488 (by omega) (by have h8 := (sp_take_j (w := w) (d := 20) (j := (sp_tl w (cl, vn, vc, lz) j).2.1) (by omega)).1; have h9 := sp_s_mono2 w (j := j) (k := (sp_take w 20 ((sp_tl w (cl, vn, vc, lz) j).2.1)).2) (by omega); omega) (hA468) (by omega) (by omega) (by omega) (by omega) (by omega) (by omega) (hVC) (by rw [← hprs, show (9000 - i.toInt).toNat = (9000 - (y473).toInt).toNat + 1 by omega, sp_prs_ok (b := (cl, vn, vc, lz)) (by omega) (by rw [sp_it_l (by omega) (by omega)]; omega) (by rw [sp_it_l (by omega) (by omega)]; omega), sp_it_l (by omega) (by omega)]) (lv_sub hl [0, 1, 2, 3, 4] rfl)

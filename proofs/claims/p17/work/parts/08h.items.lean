set_option maxHeartbeats 4000000 in
set_option maxRecDepth 100000 in
theorem x_takeLine (l : Launch) (D : va_G) (cs : Nat → ClassId) (B : Nat) (G : hq_G) (V : hp_V) (n : Nat) (hI : hq_I cs G V) (kb : Nat) (qb : Nat) (w : sp_W) (it : Nat) (bb : Nat) (j : Nat) (cl : List Nat) (vn : List Nat) (vc : List Int) (lz : List sp_L) (fk : Int32) (fp : Int32) (nx : Int32) (tk : Int32) (st : Int32) (nz : Int32) (nf : Nat → Int32) (bc : Int32) (bv : Int32) (bl : Int32) (hy0 : G (kb) = some (0, 4000, 0, 0)) (hy1 : G (kb + 1) = some (1, 4000, 0, 0)) (hy2 : G (kb + 2) = some (10, 0, 0, 0)) (hy3 : G (kb + 3) = some (0, 12, 0, 0)) (hy4 : G (kb + 4) = some (1, 12, 0, 0)) (hy5 : G (qb) = some (6, bb, 0, 0)) (hy6 : G (qb + 1) = some (4, 7, 6, 0)) (hy7 : G (qb + 14) = some (4, 7, 30, 0)) (hy8 : G (qb + 75) = some (2, 3, 30, 0)) (hy9 : G (qb + 76) = some (4, 6, 60, bb)) (hc0 : V (kb + 2) = some (.inr (7, [.int (fk), .int (fp), .ref (kb), .ref (qb), .int (nx), .int (tk), .int (st), .ref (kb + 3)]))) (hc1 : V (kb + 3) = some (.inr (9, [.ref (kb + 3 + 1), .int (nz)]))) (hc2 : V (kb + 4) = some (.inl (cs 0, 12, .inl (nf)))) (hc3 : V (qb) = some (.inr (0, [.ref (qb + 1), .int (bc), .ref (qb + 14), .ref (qb + 75), .int (bv), .ref (qb + 76), .int (bl)]))) (hp0 : hx_TP cs V kb w) (hp1 : hx_BS cs V qb) (hp2 : hx_NL cs V (qb + 2) 6 w cl) (hp3 : hx_NL cs V (qb + 15) 30 w vn) (hp4 : hx_LL cs V (qb + 77) w lz) (hp5 : hx_SK cs V qb) (hA : hx_A w j st nx tk) (hq : kb + 88 ≤ qb) (hbc : bc.toInt = (cl.length : Int)) (hbv : bv.toInt = (vn.length : Int)) (hbl : bl.toInt = (lz.length : Int)) (hBT : hx_BT G qb bb) (hit0 : lz.length < 60 → it = qb + 77 + 5 * lz.length) (hit2 : qb + 77 ≤ it ∧ it + 5 ≤ qb + 377) : hp_M l yX7_takeLine cX7_takeLine 3 (some .boolean) ({ frames := 9, cells := 0, slots := 0, locals := 197 }) D cs B V n [.ref (kb + 2)] (hp_QI D cs B (fun r V' n' => n = n' ∧ hq_P cs G (fun _ => true) V V' ∧ (∀ x, x ≠ kb + 2 → x ≠ kb + 3 → x ≠ kb + 4 → x ≠ qb → x ≠ it → x ≠ it + 1 → x ≠ it + 2 → x ≠ it + 3 → x ≠ it + 4 → V' x = V x) ∧ (∃ fk1 : Int32, ∃ fp1 : Int32, ∃ nx1 : Int32, ∃ tk1 : Int32, ∃ st1 : Int32, ∃ nz1 : Int32, ∃ nf1 : Nat → Int32, ∃ bl1 : Int32, V' (kb + 2) = some (.inr (7, [.int (fk1), .int (fp1), .ref (kb), .ref (qb), .int (nx1), .int (tk1), .int (st1), .ref (kb + 3)])) ∧ V' (kb + 3) = some (.inr (9, [.ref (kb + 3 + 1), .int (nz1)])) ∧ V' (kb + 4) = some (.inl (cs 0, 12, .inl (nf1))) ∧ V' (qb) = some (.inr (0, [.ref (qb + 1), .int (bc), .ref (qb + 14), .ref (qb + 75), .int (bv), .ref (qb + 76), .int (bl1)])) ∧ (hx_D (r.toInt = 0) (hx_F w (sp_tl w (cl, vn, vc, lz) j).1 (sp_tl w (cl, vn, vc, lz) j).2.1 fk1 fp1) ((sp_tl w (cl, vn, vc, lz) j).1 = 0 ∧ hx_O w (sp_tl w (cl, vn, vc, lz) j).2.1 fk fp fk1 fp1 st1 nx1 tk1 ∧ bl1.toInt = bl.toInt + 1 ∧ hx_LN cs V' it w (sp_tl w (cl, vn, vc, lz) j).2.2 ∧ lz.length < 60)) ∧ (r.toInt = 0 ∨ r.toInt = 1) ∧ (hx_SK cs V' qb) ∧ (bl.toInt ≤ bl1.toInt ∧ bl1.toInt ≤ 60)))) 0 0 := by
  refine hp_walk (R0 := RX7) (by decide) rfl ?_ (Nat.le_of_ble_eq_true rfl)
  intro p e s m below meth c ls hx hb hr hts hown hlocks hin hml hZ hl
  have hP : hq_P cs G (fun _ => true) V V := hq_P.rf hI
  have hl : lv_has ls 3 [(0, .ref (kb + 2))] := hl
  have hb_fk := hq_rng fk
  have hb_fp := hq_rng fp
  have hb_nx := hq_rng nx
  have hb_tk := hq_rng tk
  have hb_st := hq_rng st
  have hb_nz := hq_rng nz
  have hb_bc := hq_rng bc
  have hb_bv := hq_rng bv
  have hb_bl := hq_rng bl
  have hf_2 := hq_rgB hI hy4 hc2
  obtain ⟨b1, b2, b3, b4⟩ := id hA
  have htk0 := sp_tok (w := w) (j := j) hA.1
  obtain ⟨⟨g1, hg1, hr1⟩, ⟨g2, hg2, hr2⟩, ⟨g3, hg3, hr3⟩⟩ := id hp1
  have hlenc := hp2.1
  have hlenv := hp3.1
  have hlenl := hp4.1
  have hSK0 := hp5
  have hz9 := hx_TP.size hp0
  refine lv_aload_n hx hb dX7_takeLine_0 rfl (lv_at hl 0 rfl) ?_
  refine hp_get (v := .int (tk)) hx hb hts hown hZ hc0 fl_X7_45 rfl dX7_takeLine_1 ?_
  refine lv_if_lt (tgt := 15) hx hb dX7_takeLine_4 (by decide) (fun c5 => ?_) (fun c5 => ?_)
  · have c5 : (tk).toInt < (0 : Int) := hq_lti.mp c5
    refine lv_aload_n hx hb dX7_takeLine_15 rfl (lv_at hl 0 rfl) ?_
    refine lv_iconst (v := 1) hx hb dX7_takeLine_16 (by decide) ?_
    have hl6 : (1 : Int32).toInt = 1 := by decide
    refine hp_calli (hp_runV (As := [.int (1)]) (rest := []) hx hb hml hown hts (x_refuse l D cs B G V n hP.1 (kb) (qb) (1) (fk) (fp) (nx) (tk) (st) hy2 hc0  ) hZ hc0 cv_X7_65 rfl rfl ⟨Nat.le_of_ble_eq_true rfl, Nat.le_of_ble_eq_true rfl⟩ rfl hl.1 rfl (Nat.le_of_ble_eq_true rfl) dX7_takeLine_17 ⟨(Nat.le_of_ble_eq_true rfl), (Nat.le_of_ble_eq_true rfl)⟩) hZ (fun r10 V7 n8 _ _ hw9 hZ => ?_)
    obtain ⟨rfl, hq11, fr12, ho13, hp14⟩ := hw9
    have hP := hP.trans hq11 (fun _ h => Bool.noConfusion h)
    have b15 := hq_rng r10
    have fx16 : V7 (kb + 3) = some (.inr (9, [.ref (kb + 3 + 1), .int (nz)])) := (fr12 (kb + 3) (hq_tne hy3 hy2 (by simp))).trans (hc1)
    have fx17 : V7 (kb + 4) = some (.inl (cs 0, 12, .inl (nf))) := (fr12 (kb + 4) (hq_tne hy4 hy2 (by simp))).trans (hc2)
    have fx18 : V7 (qb) = some (.inr (0, [.ref (qb + 1), .int (bc), .ref (qb + 14), .ref (qb + 75), .int (bv), .ref (qb + 76), .int (bl)])) := (fr12 (qb) (hq_tne hy5 hy2 (by simp))).trans (hc3)
    have hl19 : (1 : Int32).toInt = 1 := by decide
    have pk20 := hp5.keep (fun x7 (hx7 : qb + 2 ≤ x7 ∧ x7 < qb + 377) => fr12 x7 (by omega))
    exact hp_zret hx hb hr (hq_nzi (by omega) (by omega)) hlocks hZ ⟨rfl, hP, (fun x8 hne0 hne1 hne2 hne3 hne4 hne5 hne6 hne7 hne8 => fr12 x8 hne0), 1, st, nx, tk, st, nz, nf, bl, ho13, fx16, fx17, fx18, hx_D.l (by omega) (by unfold sp_tl; (try dsimp only); (repeat (first | (rw [if_pos]; rotate_left; omega) | (rw [if_neg]; rotate_left; omega))); exact ⟨by omega, by omega, by omega⟩), by omega, pk20, by omega⟩ dX7_takeLine_20
  · have c5 : ¬ (tk).toInt < (0 : Int) := fun h9 => c5 (hq_lti.mpr h9)
    refine lv_aload_n hx hb dX7_takeLine_7 rfl (lv_at hl 0 rfl) ?_
    refine hp_get (v := .int (tk)) hx hb hts hown hZ hc0 fl_X7_45 rfl dX7_takeLine_8 ?_
    refine lv_iconst (v := 5) hx hb dX7_takeLine_11 (by decide) ?_
    refine lv_icmp_le (tgt := 21) hx hb dX7_takeLine_12 (by decide) (fun c21 => ?_) (fun c21 => ?_)
    · have c21 : (tk).toInt ≤ (5 : Int) := hq_lei.mp c21
      refine lv_aload_n hx hb dX7_takeLine_21 rfl (lv_at hl 0 rfl) ?_
      refine hp_get (v := .ref (qb)) hx hb hts hown hZ hc0 fl_X7_30 rfl dX7_takeLine_22 ?_
      refine hp_get (v := .int (bl)) hx hb hts hown hZ hc3 fl_X7_94 rfl dX7_takeLine_25 ?_
      refine lv_bipush (v := 60) hx hb dX7_takeLine_28 (by decide) ?_
      refine lv_icmp_lt (tgt := 39) hx hb dX7_takeLine_30 (by decide) (fun c22 => ?_) (fun c22 => ?_)
      · have c22 : (bl).toInt < (60 : Int) := hq_lti.mp c22
        have hit := hit0 (by omega)
        have hyi := hBT.2.2 lz.length (by omega)
        rw [← hit] at hyi
        obtain ⟨hyi0, hyi1, hyi2, hyi3, hyi4⟩ := hyi
        obtain ⟨⟨lk, lo, lt, lp, lh, lht, lpa, lla, hl0, hlh⟩, ⟨fz, ff, hl1, hl2, hfz⟩, ⟨sz, sf, hl3, hl4, hsz⟩⟩ := (show hx_LS cs V it by rw [hit]; exact hp5.2.2 _ (by omega))
        have hb_lk := hq_rng lk
        have hb_lo := hq_rng lo
        have hb_lt := hq_rng lt
        have hb_lp := hq_rng lp
        have hb_lh := hq_rng lh
        have hb_lht := hq_rng lht
        have hb_lpa := hq_rng lpa
        have hb_lla := hq_rng lla
        have hb_fz := hq_rng fz
        have hb_sz := hq_rng sz
        have hfr1 := hq_rgB hP.1 hyi2 hl2
        have hfr2 := hq_rgB hP.1 hyi4 hl4
        refine lv_aload_n hx hb dX7_takeLine_39 rfl (lv_at hl 0 rfl) ?_
        refine hp_get (v := .ref (qb)) hx hb hts hown hZ hc0 fl_X7_30 rfl dX7_takeLine_40 ?_
        refine hp_get (v := .ref (qb + 76)) hx hb hts hown hZ hc3 fl_X7_97 rfl dX7_takeLine_43 ?_
        refine lv_aload_n hx hb dX7_takeLine_46 rfl (lv_at hl 0 rfl) ?_
        refine hp_get (v := .ref (qb)) hx hb hts hown hZ hc0 fl_X7_30 rfl dX7_takeLine_47 ?_
        refine hp_get (v := .int (bl)) hx hb hts hown hZ hc3 fl_X7_94 rfl dX7_takeLine_50 ?_
        have hi3 : (bl : Int32).toNatClampNeg = lz.length := by have h8 := (hq_nn (z := bl) (by omega)).1; omega
        have hla1 : g3 (bl : Int32).toNatClampNeg = some it := by rw [hi3, hit]; exact hr3 _ (by omega)
        refine hp_aald (v := .ref (it)) hx hb hZ 6 hg3 rfl (hq_in (by omega) (by omega)) (by rw [hla1]; rfl) dX7_takeLine_53 ?_
        refine lv_astore_n (lv' := [(1, .ref (it)), (0, .ref (kb + 2))]) hx hb dX7_takeLine_54 rfl hl (by decide) rfl (fun ls hl => ?_)
        refine lv_aload_n hx hb dX7_takeLine_55 rfl (lv_at hl 0 rfl) ?_
        refine lv_aload_n hx hb dX7_takeLine_56 rfl (lv_at hl 1 rfl) ?_
        refine hp_get (v := .int (tk)) hx hb hts hown hZ hc0 fl_X7_45 rfl dX7_takeLine_57 ?_
        refine hp_callv (hp_runV (As := [.int (tk)]) (rest := []) hx hb hml hown hts (x_begin l D cs B G V n hP.1 (it) (bb) (tk) (lk) (lo) (lt) (lp) (lh) (lht) (lpa) (lla) (fz) (sz) hyi0 hyi1 hyi2 hyi3 hyi4 hl0 hl1 hl3  (by omega)) hZ hl0 cv_X7_101 rfl rfl ⟨Nat.le_of_ble_eq_true rfl, Nat.le_of_ble_eq_true rfl⟩ rfl hl.1 rfl (Nat.le_of_ble_eq_true rfl) dX7_takeLine_60 ⟨(Nat.le_of_ble_eq_true rfl), (Nat.le_of_ble_eq_true rfl)⟩) hZ (fun V23 n24 _ _ hw25 hZ => ?_)
        obtain ⟨rfl, hq27, fr28, ho29, ho30, ho31⟩ := hw25
        have hP := hP.trans hq27 (fun _ h => Bool.noConfusion h)
        refine lv_aload_n hx hb dX7_takeLine_63 rfl (lv_at hl 1 rfl) ?_
        have fx32 : V23 (kb + 2) = some (.inr (7, [.int (fk), .int (fp), .ref (kb), .ref (qb), .int (nx), .int (tk), .int (st), .ref (kb + 3)])) := (fr28 (kb + 2) (hq_tne hy2 hyi0 (by simp)) (hq_tne hy2 hyi1 (by simp)) (hq_tne hy2 hyi3 (by simp))).trans (hc0)
        have pk33 := hp0.keep (fr28 (kb) (hq_tne hy0 hyi0 (by simp)) (hq_tne hy0 hyi1 (by simp)) (hq_tne hy0 hyi3 (by simp))) (fr28 (kb + 1) (hq_tne hy1 hyi0 (by simp)) (hq_tne hy1 hyi1 (by simp)) (hq_tne hy1 hyi3 (by simp)))
        refine hp_callv (hp_runV (As := []) (rest := []) hx hb hml hown hts (x_next l D cs B G V23 n hP.1 (kb) (qb) (w) (j) (fk) (fp) (nx) (tk) (st) hy0 hy1 hy2 fx32 pk33 hA (by omega)) hZ fx32 cv_X7_42 rfl rfl ⟨Nat.le_of_ble_eq_true rfl, Nat.le_of_ble_eq_true rfl⟩ rfl hl.1 rfl (Nat.le_of_ble_eq_true rfl) dX7_takeLine_64 ⟨(Nat.le_of_ble_eq_true rfl), (Nat.le_of_ble_eq_true rfl)⟩) hZ (fun V34 n35 _ _ hw36 hZ => ?_)
        obtain ⟨rfl, hq38, fr39, z40, z41, z42, ho43, hp44⟩ := hw36
        have b45 := hq_rng z40
        have b46 := hq_rng z41
        have b47 := hq_rng z42
        have hP := hP.trans hq38 (fun _ h => Bool.noConfusion h)
        obtain ⟨b48, b49, b50, b51⟩ := id hp44
        refine lv_aload_n hx hb dX7_takeLine_67 rfl (lv_at hl 0 rfl) ?_
        have fx52 : V34 (it) = some (.inr (5, [.int (tk), .int (-1), .int (-1), .int (-1), .int (-1), .int (-1), .int (-1), .int (0), .ref (it + 1), .ref (it + 3)])) := (fr39 (it) (hq_tne hyi0 hy2 (by simp))).trans (ho29)
        refine hp_get (v := .int (tk)) hx hb hts hown hZ fx52 fl_X7_106 rfl dX7_takeLine_68 ?_
        rcases Classical.em (tk = 0) with h53 | h53
        · refine lv_tableIn (off := 33) (tgt := 104) hx hb dX7_takeLine_71 (by rw [h53]; decide) (by rw [h53]; decide) (by rw [h53]; decide) (by decide) ?_
          have b54 : (tk).toInt = 0 := by rw [h53]; decide
          refine lv_aload_n hx hb dX7_takeLine_104 rfl (lv_at hl 1 rfl) ?_
          refine lv_aload_n hx hb dX7_takeLine_105 rfl (lv_at hl 0 rfl) ?_
          have fx55 : V34 (kb + 3) = some (.inr (9, [.ref (kb + 3 + 1), .int (nz)])) := (fr39 (kb + 3) (hq_tne hy3 hy2 (by simp))).trans ((fr28 (kb + 3) (hq_tne hy3 hyi0 (by simp)) (hq_tne hy3 hyi1 (by simp)) (hq_tne hy3 hyi3 (by simp))).trans (hc1))
          have fx56 : V34 (kb + 4) = some (.inl (cs 0, 12, .inl (nf))) := (fr39 (kb + 4) (hq_tne hy4 hy2 (by simp))).trans ((fr28 (kb + 4) (hq_tne hy4 hyi0 (by simp)) (hq_tne hy4 hyi1 (by simp)) (hq_tne hy4 hyi3 (by simp))).trans (hc2))
          have fx57 : V34 (qb) = some (.inr (0, [.ref (qb + 1), .int (bc), .ref (qb + 14), .ref (qb + 75), .int (bv), .ref (qb + 76), .int (bl)])) := (fr39 (qb) (hq_tne hy5 hy2 (by simp))).trans ((fr28 (qb) (hq_tne hy5 hyi0 (by simp)) (hq_tne hy5 hyi1 (by simp)) (hq_tne hy5 hyi3 (by simp))).trans (hc3))
          have hl58 : (-1 : Int32).toInt = -1 := by decide
          have hl59 : (-1 : Int32).toInt = -1 := by decide
          have hl60 : (-1 : Int32).toInt = -1 := by decide
          have hl61 : (-1 : Int32).toInt = -1 := by decide
          have hl62 : (-1 : Int32).toInt = -1 := by decide
          have hl63 : (-1 : Int32).toInt = -1 := by decide
          have hl64 : (0 : Int32).toInt = 0 := by decide
          have pk65 := pk33.keep (fr39 (kb) (hq_tne hy0 hy2 (by simp))) (fr39 (kb + 1) (hq_tne hy1 hy2 (by simp)))
          have pk66 := hp1.keep ((fr39 (qb + 1) (hq_tne hy6 hy2 (by simp))).trans (fr28 (qb + 1) (hq_tne hy6 hyi0 (by simp)) (hq_tne hy6 hyi1 (by simp)) (hq_tne hy6 hyi3 (by simp)))) ((fr39 (qb + 14) (hq_tne hy7 hy2 (by simp))).trans (fr28 (qb + 14) (hq_tne hy7 hyi0 (by simp)) (hq_tne hy7 hyi1 (by simp)) (hq_tne hy7 hyi3 (by simp)))) ((fr39 (qb + 76) (hq_tne hy9 hy2 (by simp))).trans (fr28 (qb + 76) (hq_tne hy9 hyi0 (by simp)) (hq_tne hy9 hyi1 (by simp)) (hq_tne hy9 hyi3 (by simp))))
          have pk67 := hp2.keep (fun x7 (hx7 : qb + 2 ≤ x7 ∧ x7 < qb + 2 + 2 * cl.length) => (fr39 x7 (by omega)).trans (fr28 x7 (by omega) (by omega) (by omega)))
          refine hp_calli (hp_runV (As := [.ref (it)]) (rest := []) hx hb hml hown hts (x_takeWhere l D cs B G V34 n hP.1 (kb) (qb) (w) (it) (bb) (j + 1) (cl) (fk) (fp) (z40) (z41) (z42) (nz) (nf) (tk) (-1) (-1) (-1) (-1) (-1) (-1) (0) (bc) (bv) (bl) hy0 hy1 hy2 hy3 hy4 hyi0 hyi1 hyi2 hyi3 hyi4 ho43 fx55 fx56 fx52 fx57 pk65 pk66 pk67 hp44 hq (by omega) (by omega) (by omega) hbc) hZ ho43 cv_X7_109 rfl rfl ⟨Nat.le_of_ble_eq_true rfl, Nat.le_of_ble_eq_true rfl⟩ rfl hl.1 rfl (Nat.le_of_ble_eq_true rfl) dX7_takeLine_106 ⟨(Nat.le_of_ble_eq_true rfl), (Nat.le_of_ble_eq_true rfl)⟩) hZ (fun r71 V68 n69 _ _ hw70 hZ => ?_)
          obtain ⟨rfl, hq72, fr73, z74, z75, z76, z77, z78, z79, u80, z81, ho82, ho83, ho84, ho85, hp86, hp87, hp88⟩ := hw70
          have b89 := hq_rng z74
          have b90 := hq_rng z75
          have b91 := hq_rng z76
          have b92 := hq_rng z77
          have b93 := hq_rng z78
          have b94 := hq_rng z79
          have b95 := hq_rng z81
          have hP := hP.trans hq72 (fun _ h => Bool.noConfusion h)
          have hf96 := hq_rgB hP.1 hy4 ho84
          have b97 := hq_rng r71
          refine lv_if_eq (tgt := 132) hx hb dX7_takeLine_109 (by decide) (fun c98 => ?_) (fun c98 => ?_)
          · have c98 : (r71).toInt = (0 : Int) := hq_eqi.mp c98
            have hF99 := hx_D.pos hp86 (by omega)
            have b100 := hF99.1
            have b101 := hF99.2.1
            refine lv_iconst (v := 0) hx hb dX7_takeLine_132 (by decide) ?_
            refine lv_istore_n (lv' := [(2, .int (0)), (1, .ref (it)), (0, .ref (kb + 2))]) hx hb dX7_takeLine_133 rfl hl (by decide) rfl (fun ls hl => ?_)
            refine lv_goto (tgt := 278) hx hb dX7_takeLine_134 (by decide) ?_
            refine lv_aload_n hx hb dX7_takeLine_278 rfl (lv_at hl 2 rfl) ?_
            refine hp_get (v := .ref (qb)) hx hb hts hown hZ ho82 fl_X7_30 rfl dX7_takeLine_279 ?_
            refine lv_dup hx hb dX7_takeLine_282 rfl ?_
            have fx102 : V68 (qb) = some (.inr (0, [.ref (qb + 1), .int (bc), .ref (qb + 14), .ref (qb + 75), .int (bv), .ref (qb + 76), .int (bl)])) := (fr73 (qb) (hq_tne hy5 hy2 (by simp)) (hq_tne hy5 hy3 (by simp)) (hq_tne hy5 hy4 (by simp)) (hq_tne hy5 hyi0 (by simp))).trans (fx57)
            refine hp_get (v := .int (bl)) hx hb hts hown hZ fx102 fl_X7_94 rfl dX7_takeLine_283 ?_
            refine lv_iconst (v := 1) hx hb dX7_takeLine_286 (by decide) ?_
            refine lv_iadd hx hb dX7_takeLine_287 ?_
            refine lv_topi (fun y103 ey104 => ?_)
            obtain ⟨k105, hk106, b107, b108⟩ := hq_add (bl) (1)
            rw [← ey104] at hk106 b107 b108
            have hk106 : (y103).toInt = (bl).toInt + (1 : Int) + k105 * 4294967296 := hk106
            obtain rfl : k105 = 0 := by omega
            refine hp_put hx hb hts hown hZ fx102 fp_X7_94 rfl rfl (Nat.le_of_ble_eq_true rfl) dX7_takeLine_288 (fun V109 _ _ e110 o111 hZ => ?_)
            have e110 : V109 (qb) = some (.inr (0, [.ref (qb + 1), .int (bc), .ref (qb + 14), .ref (qb + 75), .int (bv), .ref (qb + 76), .int (y103)])) := e110
            have hP := hP.put hy5 e110 o111 (hq_c6 hy6 hy7 hy8 hy9 (show 0 ≤ (bc).toInt ∧ (bc).toInt ≤ 6 by omega) (show 0 ≤ (bv).toInt ∧ (bv).toInt ≤ 30 by omega) (show 0 ≤ (y103).toInt ∧ (y103).toInt ≤ 60 by omega)) rfl
            refine lv_iload_n hx hb dX7_takeLine_291 rfl (lv_at hl 0 rfl) ?_
            have hl112 : (0 : Int32).toInt = 0 := by decide
            have fx113 : V109 (kb + 2) = some (.inr (7, [.int (z74), .int (z75), .ref (kb), .ref (qb), .int (z76), .int (z77), .int (z78), .ref (kb + 3)])) := (o111 (kb + 2) (hq_tne hy2 hy5 (by simp))).trans (ho82)
            have fx114 : V109 (kb + 3) = some (.inr (9, [.ref (kb + 4), .int (z79)])) := (o111 (kb + 3) (hq_tne hy3 hy5 (by simp))).trans (ho83)
            have fx115 : V109 (kb + 4) = some (.inl (cs 0, 12, .inl (u80))) := (o111 (kb + 4) (hq_tne hy4 hy5 (by simp))).trans (ho84)
            have fx116 : V109 (it) = some (.inr (5, [.int (tk), .int (z81), .int (-1), .int (-1), .int (-1), .int (-1), .int (-1), .int (0), .ref (it + 1), .ref (it + 3)])) := (o111 (it) (hq_tne hyi0 hy5 (by simp))).trans (ho85)
            have fx117 : V109 (it + 1) = some (.inr (9, [.ref (it + 2), .int (0)])) := (o111 (it + 1) (hq_tne hyi1 hy5 (by simp))).trans ((fr73 (it + 1) (hq_tne hyi1 hy2 (by simp)) (hq_tne hyi1 hy3 (by simp)) (hq_tne hyi1 hy4 (by simp)) (hq_tne hyi1 hyi0 (by simp))).trans ((fr39 (it + 1) (hq_tne hyi1 hy2 (by simp))).trans (ho30)))
            have fx118 : V109 (it + 2) = some (.inl (cs 0, 8, .inl (ff))) := (o111 (it + 2) (hq_tne hyi2 hy5 (by simp))).trans ((fr73 (it + 2) (hq_tne hyi2 hy2 (by simp)) (hq_tne hyi2 hy3 (by simp)) (hq_tne hyi2 hy4 (by simp)) (hq_tne hyi2 hyi0 (by simp))).trans ((fr39 (it + 2) (hq_tne hyi2 hy2 (by simp))).trans ((fr28 (it + 2) (hq_tne hyi2 hyi0 (by simp)) (hq_tne hyi2 hyi1 (by simp)) (hq_tne hyi2 hyi3 (by simp))).trans (hl2))))
            have fx119 : V109 (it + 3) = some (.inr (9, [.ref (it + 4), .int (0)])) := (o111 (it + 3) (hq_tne hyi3 hy5 (by simp))).trans ((fr73 (it + 3) (hq_tne hyi3 hy2 (by simp)) (hq_tne hyi3 hy3 (by simp)) (hq_tne hyi3 hy4 (by simp)) (hq_tne hyi3 hyi0 (by simp))).trans ((fr39 (it + 3) (hq_tne hyi3 hy2 (by simp))).trans (ho31)))
            have fx120 : V109 (it + 4) = some (.inl (cs 0, 8, .inl (sf))) := (o111 (it + 4) (hq_tne hyi4 hy5 (by simp))).trans ((fr73 (it + 4) (hq_tne hyi4 hy2 (by simp)) (hq_tne hyi4 hy3 (by simp)) (hq_tne hyi4 hy4 (by simp)) (hq_tne hyi4 hyi0 (by simp))).trans ((fr39 (it + 4) (hq_tne hyi4 hy2 (by simp))).trans ((fr28 (it + 4) (hq_tne hyi4 hyi0 (by simp)) (hq_tne hyi4 hyi1 (by simp)) (hq_tne hyi4 hyi3 (by simp))).trans (hl4))))
            have hl121 : (-1 : Int32).toInt = -1 := by decide
            have hl122 : (-1 : Int32).toInt = -1 := by decide
            have hl123 : (-1 : Int32).toInt = -1 := by decide
            have hl124 : (-1 : Int32).toInt = -1 := by decide
            have hl125 : (-1 : Int32).toInt = -1 := by decide
            have hl126 : (0 : Int32).toInt = 0 := by decide
            have hl127 : (0 : Int32).toInt = 0 := by decide
            have hl128 : (0 : Int32).toInt = 0 := by decide
            have hls9 : hx_LS cs V109 it := ⟨⟨tk, z81, -1, -1, -1, -1, -1, 0, fx116, by omega⟩, ⟨_, _, fx117, fx118, by omega⟩, ⟨_, _, fx119, fx120, by omega⟩⟩
            exact hp_zret hx hb hr rfl hlocks hZ ⟨rfl, hP, (fun x8 hne0 hne1 hne2 hne3 hne4 hne5 hne6 hne7 hne8 => (o111 x8 hne3).trans ((fr73 x8 hne0 hne1 hne2 hne4).trans ((fr39 x8 hne0).trans (fr28 x8 hne4 hne5 hne7)))), z74, z75, z76, z77, z78, z79, u80, y103, fx113, fx114, fx115, e110, hx_D.l (by omega) (by unfold sp_tl sp_line; (try dsimp only); (repeat (first | (rw [if_pos]; rotate_left; omega) | (rw [if_neg]; rotate_left; omega))); (try dsimp only); exact hF99), by omega, hSK0.ln (i := lz.length) (fun x7 hx7 => (o111 x7 (by omega)).trans ((fr73 x7 (by omega) (by omega) (by omega) (by omega)).trans ((fr39 x7 (by omega)).trans (fr28 x7 (by omega) (by omega) (by omega))))) (by rw [← hit]; exact hls9), by omega⟩ dX7_takeLine_292
          · have c98 : ¬ (r71).toInt = (0 : Int) := fun h9 => c98 (hq_eqi.mpr h9)
            obtain ⟨b129, ⟨b130, b131, hA132⟩, b133⟩ := hx_D.neg hp86 (by omega)
            obtain ⟨b134, b135, b136, b137⟩ := id hA132
            refine lv_aload_n hx hb dX7_takeLine_112 rfl (lv_at hl 1 rfl) ?_
            refine lv_aload_n hx hb dX7_takeLine_113 rfl (lv_at hl 0 rfl) ?_
            have hl138 : (-1 : Int32).toInt = -1 := by decide
            have hl139 : (-1 : Int32).toInt = -1 := by decide
            have hl140 : (-1 : Int32).toInt = -1 := by decide
            have hl141 : (-1 : Int32).toInt = -1 := by decide
            have hl142 : (-1 : Int32).toInt = -1 := by decide
            have hl143 : (0 : Int32).toInt = 0 := by decide
            have pk144 := pk65.keep (fr73 (kb) (hq_tne hy0 hy2 (by simp)) (hq_tne hy0 hy3 (by simp)) (hq_tne hy0 hy4 (by simp)) (hq_tne hy0 hyi0 (by simp))) (fr73 (kb + 1) (hq_tne hy1 hy2 (by simp)) (hq_tne hy1 hy3 (by simp)) (hq_tne hy1 hy4 (by simp)) (hq_tne hy1 hyi0 (by simp)))
            refine hp_calli (hp_runV (As := [.ref (it)]) (rest := []) hx hb hml hown hts (x_takeSlot l D cs B G V68 n hP.1 (kb) (qb) (w) (it) (bb) ((sp_where w cl (j + 1)).2.1) (z74) (z75) (z76) (z77) (z78) (tk) (z81) (-1) (-1) (-1) (-1) (-1) (0) hy0 hy1 hy2 hyi0 hyi1 hyi2 hyi3 hyi4 ho82 ho85 pk144 hA132 hq (by omega) (by omega) (by omega)) hZ ho82 cv_X7_113 rfl rfl ⟨Nat.le_of_ble_eq_true rfl, Nat.le_of_ble_eq_true rfl⟩ rfl hl.1 rfl (Nat.le_of_ble_eq_true rfl) dX7_takeLine_114 ⟨(Nat.le_of_ble_eq_true rfl), (Nat.le_of_ble_eq_true rfl)⟩) hZ (fun r148 V145 n146 _ _ hw147 hZ => ?_)
            obtain ⟨rfl, hq149, fr150, z151, z152, z153, z154, z155, z156, z157, ho158, ho159, hp160, hp161⟩ := hw147
            have b162 := hq_rng z151
            have b163 := hq_rng z152
            have b164 := hq_rng z153
            have b165 := hq_rng z154
            have b166 := hq_rng z155
            have b167 := hq_rng z156
            have b168 := hq_rng z157
            have hP := hP.trans hq149 (fun _ h => Bool.noConfusion h)
            have b169 := hq_rng r148
            refine lv_if_eq (tgt := 132) hx hb dX7_takeLine_117 (by decide) (fun c170 => ?_) (fun c170 => ?_)
            · have c170 : (r148).toInt = (0 : Int) := hq_eqi.mp c170
              have hF171 := hx_D.pos hp160 (by omega)
              have b172 := hF171.1
              have b173 := hF171.2.1
              refine lv_iconst (v := 0) hx hb dX7_takeLine_132 (by decide) ?_
              refine lv_istore_n (lv' := [(2, .int (0)), (1, .ref (it)), (0, .ref (kb + 2))]) hx hb dX7_takeLine_133 rfl hl (by decide) rfl (fun ls hl => ?_)
              refine lv_goto (tgt := 278) hx hb dX7_takeLine_134 (by decide) ?_
              refine lv_aload_n hx hb dX7_takeLine_278 rfl (lv_at hl 2 rfl) ?_
              refine hp_get (v := .ref (qb)) hx hb hts hown hZ ho158 fl_X7_30 rfl dX7_takeLine_279 ?_
              refine lv_dup hx hb dX7_takeLine_282 rfl ?_
              have fx174 : V145 (qb) = some (.inr (0, [.ref (qb + 1), .int (bc), .ref (qb + 14), .ref (qb + 75), .int (bv), .ref (qb + 76), .int (bl)])) := (fr150 (qb) (hq_tne hy5 hy2 (by simp)) (hq_tne hy5 hyi0 (by simp))).trans ((fr73 (qb) (hq_tne hy5 hy2 (by simp)) (hq_tne hy5 hy3 (by simp)) (hq_tne hy5 hy4 (by simp)) (hq_tne hy5 hyi0 (by simp))).trans (fx57))
              refine hp_get (v := .int (bl)) hx hb hts hown hZ fx174 fl_X7_94 rfl dX7_takeLine_283 ?_
              refine lv_iconst (v := 1) hx hb dX7_takeLine_286 (by decide) ?_
              refine lv_iadd hx hb dX7_takeLine_287 ?_
              refine lv_topi (fun y175 ey176 => ?_)
              obtain ⟨k177, hk178, b179, b180⟩ := hq_add (bl) (1)
              rw [← ey176] at hk178 b179 b180
              have hk178 : (y175).toInt = (bl).toInt + (1 : Int) + k177 * 4294967296 := hk178
              obtain rfl : k177 = 0 := by omega
              refine hp_put hx hb hts hown hZ fx174 fp_X7_94 rfl rfl (Nat.le_of_ble_eq_true rfl) dX7_takeLine_288 (fun V181 _ _ e182 o183 hZ => ?_)
              have e182 : V181 (qb) = some (.inr (0, [.ref (qb + 1), .int (bc), .ref (qb + 14), .ref (qb + 75), .int (bv), .ref (qb + 76), .int (y175)])) := e182
              have hP := hP.put hy5 e182 o183 (hq_c6 hy6 hy7 hy8 hy9 (show 0 ≤ (bc).toInt ∧ (bc).toInt ≤ 6 by omega) (show 0 ≤ (bv).toInt ∧ (bv).toInt ≤ 30 by omega) (show 0 ≤ (y175).toInt ∧ (y175).toInt ≤ 60 by omega)) rfl
              refine lv_iload_n hx hb dX7_takeLine_291 rfl (lv_at hl 0 rfl) ?_
              have hl184 : (0 : Int32).toInt = 0 := by decide
              have fx185 : V181 (kb + 2) = some (.inr (7, [.int (z151), .int (z152), .ref (kb), .ref (qb), .int (z153), .int (z154), .int (z155), .ref (kb + 3)])) := (o183 (kb + 2) (hq_tne hy2 hy5 (by simp))).trans (ho158)
              have fx186 : V181 (kb + 3) = some (.inr (9, [.ref (kb + 4), .int (z79)])) := (o183 (kb + 3) (hq_tne hy3 hy5 (by simp))).trans ((fr150 (kb + 3) (hq_tne hy3 hy2 (by simp)) (hq_tne hy3 hyi0 (by simp))).trans (ho83))
              have fx187 : V181 (kb + 4) = some (.inl (cs 0, 12, .inl (u80))) := (o183 (kb + 4) (hq_tne hy4 hy5 (by simp))).trans ((fr150 (kb + 4) (hq_tne hy4 hy2 (by simp)) (hq_tne hy4 hyi0 (by simp))).trans (ho84))
              have fx188 : V181 (it) = some (.inr (5, [.int (tk), .int (z81), .int (z156), .int (z157), .int (-1), .int (-1), .int (-1), .int (0), .ref (it + 1), .ref (it + 3)])) := (o183 (it) (hq_tne hyi0 hy5 (by simp))).trans (ho159)
              have fx189 : V181 (it + 1) = some (.inr (9, [.ref (it + 2), .int (0)])) := (o183 (it + 1) (hq_tne hyi1 hy5 (by simp))).trans ((fr150 (it + 1) (hq_tne hyi1 hy2 (by simp)) (hq_tne hyi1 hyi0 (by simp))).trans ((fr73 (it + 1) (hq_tne hyi1 hy2 (by simp)) (hq_tne hyi1 hy3 (by simp)) (hq_tne hyi1 hy4 (by simp)) (hq_tne hyi1 hyi0 (by simp))).trans ((fr39 (it + 1) (hq_tne hyi1 hy2 (by simp))).trans (ho30))))
              have fx190 : V181 (it + 2) = some (.inl (cs 0, 8, .inl (ff))) := (o183 (it + 2) (hq_tne hyi2 hy5 (by simp))).trans ((fr150 (it + 2) (hq_tne hyi2 hy2 (by simp)) (hq_tne hyi2 hyi0 (by simp))).trans ((fr73 (it + 2) (hq_tne hyi2 hy2 (by simp)) (hq_tne hyi2 hy3 (by simp)) (hq_tne hyi2 hy4 (by simp)) (hq_tne hyi2 hyi0 (by simp))).trans ((fr39 (it + 2) (hq_tne hyi2 hy2 (by simp))).trans ((fr28 (it + 2) (hq_tne hyi2 hyi0 (by simp)) (hq_tne hyi2 hyi1 (by simp)) (hq_tne hyi2 hyi3 (by simp))).trans (hl2)))))
              have fx191 : V181 (it + 3) = some (.inr (9, [.ref (it + 4), .int (0)])) := (o183 (it + 3) (hq_tne hyi3 hy5 (by simp))).trans ((fr150 (it + 3) (hq_tne hyi3 hy2 (by simp)) (hq_tne hyi3 hyi0 (by simp))).trans ((fr73 (it + 3) (hq_tne hyi3 hy2 (by simp)) (hq_tne hyi3 hy3 (by simp)) (hq_tne hyi3 hy4 (by simp)) (hq_tne hyi3 hyi0 (by simp))).trans ((fr39 (it + 3) (hq_tne hyi3 hy2 (by simp))).trans (ho31))))
              have fx192 : V181 (it + 4) = some (.inl (cs 0, 8, .inl (sf))) := (o183 (it + 4) (hq_tne hyi4 hy5 (by simp))).trans ((fr150 (it + 4) (hq_tne hyi4 hy2 (by simp)) (hq_tne hyi4 hyi0 (by simp))).trans ((fr73 (it + 4) (hq_tne hyi4 hy2 (by simp)) (hq_tne hyi4 hy3 (by simp)) (hq_tne hyi4 hy4 (by simp)) (hq_tne hyi4 hyi0 (by simp))).trans ((fr39 (it + 4) (hq_tne hyi4 hy2 (by simp))).trans ((fr28 (it + 4) (hq_tne hyi4 hyi0 (by simp)) (hq_tne hyi4 hyi1 (by simp)) (hq_tne hyi4 hyi3 (by simp))).trans (hl4)))))
              have hl193 : (-1 : Int32).toInt = -1 := by decide
              have hl194 : (-1 : Int32).toInt = -1 := by decide
              have hl195 : (-1 : Int32).toInt = -1 := by decide
              have hl196 : (0 : Int32).toInt = 0 := by decide
              have hl197 : (0 : Int32).toInt = 0 := by decide
              have hl198 : (0 : Int32).toInt = 0 := by decide
              have hls9 : hx_LS cs V181 it := ⟨⟨tk, z81, z156, z157, -1, -1, -1, 0, fx188, by omega⟩, ⟨_, _, fx189, fx190, by omega⟩, ⟨_, _, fx191, fx192, by omega⟩⟩
              exact hp_zret hx hb hr rfl hlocks hZ ⟨rfl, hP, (fun x8 hne0 hne1 hne2 hne3 hne4 hne5 hne6 hne7 hne8 => (o183 x8 hne3).trans ((fr150 x8 hne0 hne4).trans ((fr73 x8 hne0 hne1 hne2 hne4).trans ((fr39 x8 hne0).trans (fr28 x8 hne4 hne5 hne7))))), z151, z152, z153, z154, z155, z79, u80, y175, fx185, fx186, fx187, e182, hx_D.l (by omega) (by unfold sp_tl sp_line; (try dsimp only); (repeat (first | (rw [if_pos]; rotate_left; omega) | (rw [if_neg]; rotate_left; omega))); (try dsimp only); exact hF171), by omega, hSK0.ln (i := lz.length) (fun x7 hx7 => (o183 x7 (by omega)).trans ((fr150 x7 (by omega) (by omega)).trans ((fr73 x7 (by omega) (by omega) (by omega) (by omega)).trans ((fr39 x7 (by omega)).trans (fr28 x7 (by omega) (by omega) (by omega)))))) (by rw [← hit]; exact hls9), by omega⟩ dX7_takeLine_292
            · have c170 : ¬ (r148).toInt = (0 : Int) := fun h9 => c170 (hq_eqi.mpr h9)
              obtain ⟨b199, ⟨b200, b201, hA202⟩, b203, b204⟩ := hx_D.neg hp160 (by omega)
              obtain ⟨b205, b206, b207, b208⟩ := id hA202
              refine lv_aload_n hx hb dX7_takeLine_120 rfl (lv_at hl 1 rfl) ?_
              refine lv_aload_n hx hb dX7_takeLine_121 rfl (lv_at hl 0 rfl) ?_
              have fx209 : V145 (it + 1) = some (.inr (9, [.ref (it + 2), .int (0)])) := (fr150 (it + 1) (hq_tne hyi1 hy2 (by simp)) (hq_tne hyi1 hyi0 (by simp))).trans ((fr73 (it + 1) (hq_tne hyi1 hy2 (by simp)) (hq_tne hyi1 hy3 (by simp)) (hq_tne hyi1 hy4 (by simp)) (hq_tne hyi1 hyi0 (by simp))).trans ((fr39 (it + 1) (hq_tne hyi1 hy2 (by simp))).trans (ho30)))
              have fx210 : V145 (it + 2) = some (.inl (cs 0, 8, .inl (ff))) := (fr150 (it + 2) (hq_tne hyi2 hy2 (by simp)) (hq_tne hyi2 hyi0 (by simp))).trans ((fr73 (it + 2) (hq_tne hyi2 hy2 (by simp)) (hq_tne hyi2 hy3 (by simp)) (hq_tne hyi2 hy4 (by simp)) (hq_tne hyi2 hyi0 (by simp))).trans ((fr39 (it + 2) (hq_tne hyi2 hy2 (by simp))).trans ((fr28 (it + 2) (hq_tne hyi2 hyi0 (by simp)) (hq_tne hyi2 hyi1 (by simp)) (hq_tne hyi2 hyi3 (by simp))).trans (hl2))))
              have fx211 : V145 (it + 3) = some (.inr (9, [.ref (it + 4), .int (0)])) := (fr150 (it + 3) (hq_tne hyi3 hy2 (by simp)) (hq_tne hyi3 hyi0 (by simp))).trans ((fr73 (it + 3) (hq_tne hyi3 hy2 (by simp)) (hq_tne hyi3 hy3 (by simp)) (hq_tne hyi3 hy4 (by simp)) (hq_tne hyi3 hyi0 (by simp))).trans ((fr39 (it + 3) (hq_tne hyi3 hy2 (by simp))).trans (ho31)))
              have fx212 : V145 (it + 4) = some (.inl (cs 0, 8, .inl (sf))) := (fr150 (it + 4) (hq_tne hyi4 hy2 (by simp)) (hq_tne hyi4 hyi0 (by simp))).trans ((fr73 (it + 4) (hq_tne hyi4 hy2 (by simp)) (hq_tne hyi4 hy3 (by simp)) (hq_tne hyi4 hy4 (by simp)) (hq_tne hyi4 hyi0 (by simp))).trans ((fr39 (it + 4) (hq_tne hyi4 hy2 (by simp))).trans ((fr28 (it + 4) (hq_tne hyi4 hyi0 (by simp)) (hq_tne hyi4 hyi1 (by simp)) (hq_tne hyi4 hyi3 (by simp))).trans (hl4))))
              have hl213 : (-1 : Int32).toInt = -1 := by decide
              have hl214 : (-1 : Int32).toInt = -1 := by decide
              have hl215 : (-1 : Int32).toInt = -1 := by decide
              have hl216 : (0 : Int32).toInt = 0 := by decide
              have hl217 : (0 : Int32).toInt = 0 := by decide
              have hl218 : (0 : Int32).toInt = 0 := by decide
              have pk219 := pk144.keep (fr150 (kb) (hq_tne hy0 hy2 (by simp)) (hq_tne hy0 hyi0 (by simp))) (fr150 (kb + 1) (hq_tne hy1 hy2 (by simp)) (hq_tne hy1 hyi0 (by simp)))
              refine hp_calli (hp_runV (As := [.ref (it)]) (rest := []) hx hb hml hown hts (x_takeChange l D cs B G V145 n hP.1 (kb) (qb) (w) (it) (bb) ((sp_slot w ((sp_where w cl (j + 1)).2.1)).2.1) (z151) (z152) (z153) (z154) (z155) (tk) (z81) (z156) (z157) (-1) (-1) (-1) (0) (0) (ff) (0) (sf) hy0 hy1 hy2 hyi0 hyi1 hyi2 hyi3 hyi4 ho158 ho159 fx209 fx210 fx211 fx212 pk219 hA202 hq (by omega) (by omega) (by omega)) hZ ho158 cv_X7_116 rfl rfl ⟨Nat.le_of_ble_eq_true rfl, Nat.le_of_ble_eq_true rfl⟩ rfl hl.1 rfl (Nat.le_of_ble_eq_true rfl) dX7_takeLine_122 ⟨(Nat.le_of_ble_eq_true rfl), (Nat.le_of_ble_eq_true rfl)⟩) hZ (fun r223 V220 n221 _ _ hw222 hZ => ?_)
              obtain ⟨rfl, hq224, fr225, z226, z227, z228, z229, z230, z231, u232, z233, u234, ho235, ho236, ho237, ho238, ho239, hp240, hp241, hp242⟩ := hw222
              have b243 := hq_rng z226
              have b244 := hq_rng z227
              have b245 := hq_rng z228
              have b246 := hq_rng z229
              have b247 := hq_rng z230
              have b248 := hq_rng z231
              have b249 := hq_rng z233
              have hP := hP.trans hq224 (fun _ h => Bool.noConfusion h)
              have hf250 := hq_rgB hP.1 hyi2 ho237
              have hf251 := hq_rgB hP.1 hyi4 ho239
              have b252 := hq_rng r223
              refine lv_if_eq (tgt := 132) hx hb dX7_takeLine_125 (by decide) (fun c253 => ?_) (fun c253 => ?_)
              · have c253 : (r223).toInt = (0 : Int) := hq_eqi.mp c253
                have hF254 := hx_D.pos hp240 (by omega)
                have b255 := hF254.1
                have b256 := hF254.2.1
                refine lv_iconst (v := 0) hx hb dX7_takeLine_132 (by decide) ?_
                refine lv_istore_n (lv' := [(2, .int (0)), (1, .ref (it)), (0, .ref (kb + 2))]) hx hb dX7_takeLine_133 rfl hl (by decide) rfl (fun ls hl => ?_)
                refine lv_goto (tgt := 278) hx hb dX7_takeLine_134 (by decide) ?_
                refine lv_aload_n hx hb dX7_takeLine_278 rfl (lv_at hl 2 rfl) ?_
                refine hp_get (v := .ref (qb)) hx hb hts hown hZ ho235 fl_X7_30 rfl dX7_takeLine_279 ?_
                refine lv_dup hx hb dX7_takeLine_282 rfl ?_
                have fx257 : V220 (qb) = some (.inr (0, [.ref (qb + 1), .int (bc), .ref (qb + 14), .ref (qb + 75), .int (bv), .ref (qb + 76), .int (bl)])) := (fr225 (qb) (hq_tne hy5 hy2 (by simp)) (hq_tne hy5 hyi1 (by simp)) (hq_tne hy5 hyi2 (by simp)) (hq_tne hy5 hyi3 (by simp)) (hq_tne hy5 hyi4 (by simp))).trans ((fr150 (qb) (hq_tne hy5 hy2 (by simp)) (hq_tne hy5 hyi0 (by simp))).trans ((fr73 (qb) (hq_tne hy5 hy2 (by simp)) (hq_tne hy5 hy3 (by simp)) (hq_tne hy5 hy4 (by simp)) (hq_tne hy5 hyi0 (by simp))).trans (fx57)))
                refine hp_get (v := .int (bl)) hx hb hts hown hZ fx257 fl_X7_94 rfl dX7_takeLine_283 ?_
                refine lv_iconst (v := 1) hx hb dX7_takeLine_286 (by decide) ?_
                refine lv_iadd hx hb dX7_takeLine_287 ?_
                refine lv_topi (fun y258 ey259 => ?_)
                obtain ⟨k260, hk261, b262, b263⟩ := hq_add (bl) (1)
                rw [← ey259] at hk261 b262 b263
                have hk261 : (y258).toInt = (bl).toInt + (1 : Int) + k260 * 4294967296 := hk261
                obtain rfl : k260 = 0 := by omega
                refine hp_put hx hb hts hown hZ fx257 fp_X7_94 rfl rfl (Nat.le_of_ble_eq_true rfl) dX7_takeLine_288 (fun V264 _ _ e265 o266 hZ => ?_)
                have e265 : V264 (qb) = some (.inr (0, [.ref (qb + 1), .int (bc), .ref (qb + 14), .ref (qb + 75), .int (bv), .ref (qb + 76), .int (y258)])) := e265
                have hP := hP.put hy5 e265 o266 (hq_c6 hy6 hy7 hy8 hy9 (show 0 ≤ (bc).toInt ∧ (bc).toInt ≤ 6 by omega) (show 0 ≤ (bv).toInt ∧ (bv).toInt ≤ 30 by omega) (show 0 ≤ (y258).toInt ∧ (y258).toInt ≤ 60 by omega)) rfl
                refine lv_iload_n hx hb dX7_takeLine_291 rfl (lv_at hl 0 rfl) ?_
                have hl267 : (0 : Int32).toInt = 0 := by decide
                have fx268 : V264 (kb + 2) = some (.inr (7, [.int (z226), .int (z227), .ref (kb), .ref (qb), .int (z228), .int (z229), .int (z230), .ref (kb + 3)])) := (o266 (kb + 2) (hq_tne hy2 hy5 (by simp))).trans (ho235)
                have fx269 : V264 (kb + 3) = some (.inr (9, [.ref (kb + 4), .int (z79)])) := (o266 (kb + 3) (hq_tne hy3 hy5 (by simp))).trans ((fr225 (kb + 3) (hq_tne hy3 hy2 (by simp)) (hq_tne hy3 hyi1 (by simp)) (hq_tne hy3 hyi2 (by simp)) (hq_tne hy3 hyi3 (by simp)) (hq_tne hy3 hyi4 (by simp))).trans ((fr150 (kb + 3) (hq_tne hy3 hy2 (by simp)) (hq_tne hy3 hyi0 (by simp))).trans (ho83)))
                have fx270 : V264 (kb + 4) = some (.inl (cs 0, 12, .inl (u80))) := (o266 (kb + 4) (hq_tne hy4 hy5 (by simp))).trans ((fr225 (kb + 4) (hq_tne hy4 hy2 (by simp)) (hq_tne hy4 hyi1 (by simp)) (hq_tne hy4 hyi2 (by simp)) (hq_tne hy4 hyi3 (by simp)) (hq_tne hy4 hyi4 (by simp))).trans ((fr150 (kb + 4) (hq_tne hy4 hy2 (by simp)) (hq_tne hy4 hyi0 (by simp))).trans (ho84)))
                have fx271 : V264 (it) = some (.inr (5, [.int (tk), .int (z81), .int (z156), .int (z157), .int (-1), .int (-1), .int (-1), .int (0), .ref (it + 1), .ref (it + 3)])) := (o266 (it) (hq_tne hyi0 hy5 (by simp))).trans ((fr225 (it) (hq_tne hyi0 hy2 (by simp)) (hq_tne hyi0 hyi1 (by simp)) (hq_tne hyi0 hyi2 (by simp)) (hq_tne hyi0 hyi3 (by simp)) (hq_tne hyi0 hyi4 (by simp))).trans (ho159))
                have fx272 : V264 (it + 1) = some (.inr (9, [.ref (it + 2), .int (z231)])) := (o266 (it + 1) (hq_tne hyi1 hy5 (by simp))).trans (ho236)
                have fx273 : V264 (it + 2) = some (.inl (cs 0, 8, .inl (u232))) := (o266 (it + 2) (hq_tne hyi2 hy5 (by simp))).trans (ho237)
                have fx274 : V264 (it + 3) = some (.inr (9, [.ref (it + 4), .int (z233)])) := (o266 (it + 3) (hq_tne hyi3 hy5 (by simp))).trans (ho238)
                have fx275 : V264 (it + 4) = some (.inl (cs 0, 8, .inl (u234))) := (o266 (it + 4) (hq_tne hyi4 hy5 (by simp))).trans (ho239)
                have hl276 : (-1 : Int32).toInt = -1 := by decide
                have hl277 : (-1 : Int32).toInt = -1 := by decide
                have hl278 : (-1 : Int32).toInt = -1 := by decide
                have hl279 : (0 : Int32).toInt = 0 := by decide
                have hls9 : hx_LS cs V264 it := ⟨⟨tk, z81, z156, z157, -1, -1, -1, 0, fx271, by omega⟩, ⟨_, _, fx272, fx273, by omega⟩, ⟨_, _, fx274, fx275, by omega⟩⟩
                exact hp_zret hx hb hr rfl hlocks hZ ⟨rfl, hP, (fun x8 hne0 hne1 hne2 hne3 hne4 hne5 hne6 hne7 hne8 => (o266 x8 hne3).trans ((fr225 x8 hne0 hne5 hne6 hne7 hne8).trans ((fr150 x8 hne0 hne4).trans ((fr73 x8 hne0 hne1 hne2 hne4).trans ((fr39 x8 hne0).trans (fr28 x8 hne4 hne5 hne7)))))), z226, z227, z228, z229, z230, z79, u80, y258, fx268, fx269, fx270, e265, hx_D.l (by omega) (by unfold sp_tl sp_line; (try dsimp only); (repeat (first | (rw [if_pos]; rotate_left; omega) | (rw [if_neg]; rotate_left; omega))); (try dsimp only); exact hF254), by omega, hSK0.ln (i := lz.length) (fun x7 hx7 => (o266 x7 (by omega)).trans ((fr225 x7 (by omega) (by omega) (by omega) (by omega) (by omega)).trans ((fr150 x7 (by omega) (by omega)).trans ((fr73 x7 (by omega) (by omega) (by omega) (by omega)).trans ((fr39 x7 (by omega)).trans (fr28 x7 (by omega) (by omega) (by omega))))))) (by rw [← hit]; exact hls9), by omega⟩ dX7_takeLine_292
              · have c253 : ¬ (r223).toInt = (0 : Int) := fun h9 => c253 (hq_eqi.mpr h9)
                obtain ⟨b280, ⟨b281, b282, hA283⟩, b284, b285, b286, b287⟩ := hx_D.neg hp240 (by omega)
                obtain ⟨b288, b289, b290, b291⟩ := id hA283
                refine lv_iconst (v := 1) hx hb dX7_takeLine_128 (by decide) ?_
                refine lv_goto (tgt := 133) hx hb dX7_takeLine_129 (by decide) ?_
                refine lv_istore_n (lv' := [(2, .int (1)), (1, .ref (it)), (0, .ref (kb + 2))]) hx hb dX7_takeLine_133 rfl hl (by decide) rfl (fun ls hl => ?_)
                refine lv_goto (tgt := 278) hx hb dX7_takeLine_134 (by decide) ?_
                refine lv_aload_n hx hb dX7_takeLine_278 rfl (lv_at hl 2 rfl) ?_
                refine hp_get (v := .ref (qb)) hx hb hts hown hZ ho235 fl_X7_30 rfl dX7_takeLine_279 ?_
                refine lv_dup hx hb dX7_takeLine_282 rfl ?_
                have fx292 : V220 (qb) = some (.inr (0, [.ref (qb + 1), .int (bc), .ref (qb + 14), .ref (qb + 75), .int (bv), .ref (qb + 76), .int (bl)])) := (fr225 (qb) (hq_tne hy5 hy2 (by simp)) (hq_tne hy5 hyi1 (by simp)) (hq_tne hy5 hyi2 (by simp)) (hq_tne hy5 hyi3 (by simp)) (hq_tne hy5 hyi4 (by simp))).trans ((fr150 (qb) (hq_tne hy5 hy2 (by simp)) (hq_tne hy5 hyi0 (by simp))).trans ((fr73 (qb) (hq_tne hy5 hy2 (by simp)) (hq_tne hy5 hy3 (by simp)) (hq_tne hy5 hy4 (by simp)) (hq_tne hy5 hyi0 (by simp))).trans (fx57)))
                refine hp_get (v := .int (bl)) hx hb hts hown hZ fx292 fl_X7_94 rfl dX7_takeLine_283 ?_
                refine lv_iconst (v := 1) hx hb dX7_takeLine_286 (by decide) ?_
                refine lv_iadd hx hb dX7_takeLine_287 ?_
                refine lv_topi (fun y293 ey294 => ?_)
                obtain ⟨k295, hk296, b297, b298⟩ := hq_add (bl) (1)
                rw [← ey294] at hk296 b297 b298
                have hk296 : (y293).toInt = (bl).toInt + (1 : Int) + k295 * 4294967296 := hk296
                obtain rfl : k295 = 0 := by omega
                refine hp_put hx hb hts hown hZ fx292 fp_X7_94 rfl rfl (Nat.le_of_ble_eq_true rfl) dX7_takeLine_288 (fun V299 _ _ e300 o301 hZ => ?_)
                have e300 : V299 (qb) = some (.inr (0, [.ref (qb + 1), .int (bc), .ref (qb + 14), .ref (qb + 75), .int (bv), .ref (qb + 76), .int (y293)])) := e300
                have hP := hP.put hy5 e300 o301 (hq_c6 hy6 hy7 hy8 hy9 (show 0 ≤ (bc).toInt ∧ (bc).toInt ≤ 6 by omega) (show 0 ≤ (bv).toInt ∧ (bv).toInt ≤ 30 by omega) (show 0 ≤ (y293).toInt ∧ (y293).toInt ≤ 60 by omega)) rfl
                refine lv_iload_n hx hb dX7_takeLine_291 rfl (lv_at hl 0 rfl) ?_
                have hl302 : (1 : Int32).toInt = 1 := by decide
                have fx303 : V299 (kb + 2) = some (.inr (7, [.int (z226), .int (z227), .ref (kb), .ref (qb), .int (z228), .int (z229), .int (z230), .ref (kb + 3)])) := (o301 (kb + 2) (hq_tne hy2 hy5 (by simp))).trans (ho235)
                have fx304 : V299 (kb + 3) = some (.inr (9, [.ref (kb + 4), .int (z79)])) := (o301 (kb + 3) (hq_tne hy3 hy5 (by simp))).trans ((fr225 (kb + 3) (hq_tne hy3 hy2 (by simp)) (hq_tne hy3 hyi1 (by simp)) (hq_tne hy3 hyi2 (by simp)) (hq_tne hy3 hyi3 (by simp)) (hq_tne hy3 hyi4 (by simp))).trans ((fr150 (kb + 3) (hq_tne hy3 hy2 (by simp)) (hq_tne hy3 hyi0 (by simp))).trans (ho83)))
                have fx305 : V299 (kb + 4) = some (.inl (cs 0, 12, .inl (u80))) := (o301 (kb + 4) (hq_tne hy4 hy5 (by simp))).trans ((fr225 (kb + 4) (hq_tne hy4 hy2 (by simp)) (hq_tne hy4 hyi1 (by simp)) (hq_tne hy4 hyi2 (by simp)) (hq_tne hy4 hyi3 (by simp)) (hq_tne hy4 hyi4 (by simp))).trans ((fr150 (kb + 4) (hq_tne hy4 hy2 (by simp)) (hq_tne hy4 hyi0 (by simp))).trans (ho84)))
                have fx306 : V299 (it) = some (.inr (5, [.int (tk), .int (z81), .int (z156), .int (z157), .int (-1), .int (-1), .int (-1), .int (0), .ref (it + 1), .ref (it + 3)])) := (o301 (it) (hq_tne hyi0 hy5 (by simp))).trans ((fr225 (it) (hq_tne hyi0 hy2 (by simp)) (hq_tne hyi0 hyi1 (by simp)) (hq_tne hyi0 hyi2 (by simp)) (hq_tne hyi0 hyi3 (by simp)) (hq_tne hyi0 hyi4 (by simp))).trans (ho159))
                have fx307 : V299 (it + 1) = some (.inr (9, [.ref (it + 2), .int (z231)])) := (o301 (it + 1) (hq_tne hyi1 hy5 (by simp))).trans (ho236)
                have fx308 : V299 (it + 2) = some (.inl (cs 0, 8, .inl (u232))) := (o301 (it + 2) (hq_tne hyi2 hy5 (by simp))).trans (ho237)
                have fx309 : V299 (it + 3) = some (.inr (9, [.ref (it + 4), .int (z233)])) := (o301 (it + 3) (hq_tne hyi3 hy5 (by simp))).trans (ho238)
                have fx310 : V299 (it + 4) = some (.inl (cs 0, 8, .inl (u234))) := (o301 (it + 4) (hq_tne hyi4 hy5 (by simp))).trans (ho239)
                have hl311 : (-1 : Int32).toInt = -1 := by decide
                have hl312 : (-1 : Int32).toInt = -1 := by decide
                have hl313 : (-1 : Int32).toInt = -1 := by decide
                have hl314 : (0 : Int32).toInt = 0 := by decide
                have hls9 : hx_LS cs V299 it := ⟨⟨tk, z81, z156, z157, -1, -1, -1, 0, fx306, by omega⟩, ⟨_, _, fx307, fx308, by omega⟩, ⟨_, _, fx309, fx310, by omega⟩⟩
                exact hp_zret hx hb hr rfl hlocks hZ ⟨rfl, hP, (fun x8 hne0 hne1 hne2 hne3 hne4 hne5 hne6 hne7 hne8 => (o301 x8 hne3).trans ((fr225 x8 hne0 hne5 hne6 hne7 hne8).trans ((fr150 x8 hne0 hne4).trans ((fr73 x8 hne0 hne1 hne2 hne4).trans ((fr39 x8 hne0).trans (fr28 x8 hne4 hne5 hne7)))))), z226, z227, z228, z229, z230, z79, u80, y293, fx303, fx304, fx305, e300, hx_D.r (by omega) (by unfold sp_tl sp_line; (try dsimp only); (repeat (first | (rw [if_pos]; rotate_left; omega) | (rw [if_neg]; rotate_left; omega))); (try dsimp only); exact ⟨by first | rfl | omega, ⟨by omega, by omega, hA283⟩, by omega, ⟨tk, z81, z156, z157, -1, -1, -1, 0, fx306, by first | omega | (dsimp only; omega), by first | omega | (dsimp only; omega), by first | omega | (dsimp only; omega), by first | omega | (dsimp only; omega), fun h9 => by first | omega | (dsimp only at h9 ⊢; omega), fun h9 => by first | omega | (dsimp only at h9 ⊢; omega), ⟨_, _, fx307, fx308, by first | omega | (dsimp only; omega), by first | omega | (dsimp only; omega), b285⟩, ⟨_, _, fx309, fx310, by first | omega | (dsimp only; omega), by first | omega | (dsimp only; omega), b287⟩⟩, by omega⟩), by omega, hSK0.ln (i := lz.length) (fun x7 hx7 => (o301 x7 (by omega)).trans ((fr225 x7 (by omega) (by omega) (by omega) (by omega) (by omega)).trans ((fr150 x7 (by omega) (by omega)).trans ((fr73 x7 (by omega) (by omega) (by omega) (by omega)).trans ((fr39 x7 (by omega)).trans (fr28 x7 (by omega) (by omega) (by omega))))))) (by rw [← hit]; exact hls9), by omega⟩ dX7_takeLine_292
        ·
          rcases Classical.em (tk = 1) with h315 | h315
          · refine lv_tableIn (off := 66) (tgt := 137) hx hb dX7_takeLine_71 (by rw [h315]; decide) (by rw [h315]; decide) (by rw [h315]; decide) (by decide) ?_
            have b316 : (tk).toInt = 1 := by rw [h315]; decide
            refine lv_aload_n hx hb dX7_takeLine_137 rfl (lv_at hl 1 rfl) ?_
            refine lv_aload_n hx hb dX7_takeLine_138 rfl (lv_at hl 0 rfl) ?_
            have fx317 : V34 (kb + 3) = some (.inr (9, [.ref (kb + 3 + 1), .int (nz)])) := (fr39 (kb + 3) (hq_tne hy3 hy2 (by simp))).trans ((fr28 (kb + 3) (hq_tne hy3 hyi0 (by simp)) (hq_tne hy3 hyi1 (by simp)) (hq_tne hy3 hyi3 (by simp))).trans (hc1))
            have fx318 : V34 (kb + 4) = some (.inl (cs 0, 12, .inl (nf))) := (fr39 (kb + 4) (hq_tne hy4 hy2 (by simp))).trans ((fr28 (kb + 4) (hq_tne hy4 hyi0 (by simp)) (hq_tne hy4 hyi1 (by simp)) (hq_tne hy4 hyi3 (by simp))).trans (hc2))
            have fx319 : V34 (qb) = some (.inr (0, [.ref (qb + 1), .int (bc), .ref (qb + 14), .ref (qb + 75), .int (bv), .ref (qb + 76), .int (bl)])) := (fr39 (qb) (hq_tne hy5 hy2 (by simp))).trans ((fr28 (qb) (hq_tne hy5 hyi0 (by simp)) (hq_tne hy5 hyi1 (by simp)) (hq_tne hy5 hyi3 (by simp))).trans (hc3))
            have hl320 : (-1 : Int32).toInt = -1 := by decide
            have hl321 : (-1 : Int32).toInt = -1 := by decide
            have hl322 : (-1 : Int32).toInt = -1 := by decide
            have hl323 : (-1 : Int32).toInt = -1 := by decide
            have hl324 : (-1 : Int32).toInt = -1 := by decide
            have hl325 : (-1 : Int32).toInt = -1 := by decide
            have hl326 : (0 : Int32).toInt = 0 := by decide
            have pk327 := pk33.keep (fr39 (kb) (hq_tne hy0 hy2 (by simp))) (fr39 (kb + 1) (hq_tne hy1 hy2 (by simp)))
            have pk328 := hp1.keep ((fr39 (qb + 1) (hq_tne hy6 hy2 (by simp))).trans (fr28 (qb + 1) (hq_tne hy6 hyi0 (by simp)) (hq_tne hy6 hyi1 (by simp)) (hq_tne hy6 hyi3 (by simp)))) ((fr39 (qb + 14) (hq_tne hy7 hy2 (by simp))).trans (fr28 (qb + 14) (hq_tne hy7 hyi0 (by simp)) (hq_tne hy7 hyi1 (by simp)) (hq_tne hy7 hyi3 (by simp)))) ((fr39 (qb + 76) (hq_tne hy9 hy2 (by simp))).trans (fr28 (qb + 76) (hq_tne hy9 hyi0 (by simp)) (hq_tne hy9 hyi1 (by simp)) (hq_tne hy9 hyi3 (by simp))))
            have pk329 := hp2.keep (fun x7 (hx7 : qb + 2 ≤ x7 ∧ x7 < qb + 2 + 2 * cl.length) => (fr39 x7 (by omega)).trans (fr28 x7 (by omega) (by omega) (by omega)))
            refine hp_calli (hp_runV (As := [.ref (it)]) (rest := []) hx hb hml hown hts (x_takeWhere l D cs B G V34 n hP.1 (kb) (qb) (w) (it) (bb) (j + 1) (cl) (fk) (fp) (z40) (z41) (z42) (nz) (nf) (tk) (-1) (-1) (-1) (-1) (-1) (-1) (0) (bc) (bv) (bl) hy0 hy1 hy2 hy3 hy4 hyi0 hyi1 hyi2 hyi3 hyi4 ho43 fx317 fx318 fx52 fx319 pk327 pk328 pk329 hp44 hq (by omega) (by omega) (by omega) hbc) hZ ho43 cv_X7_109 rfl rfl ⟨Nat.le_of_ble_eq_true rfl, Nat.le_of_ble_eq_true rfl⟩ rfl hl.1 rfl (Nat.le_of_ble_eq_true rfl) dX7_takeLine_139 ⟨(Nat.le_of_ble_eq_true rfl), (Nat.le_of_ble_eq_true rfl)⟩) hZ (fun r333 V330 n331 _ _ hw332 hZ => ?_)
            obtain ⟨rfl, hq334, fr335, z336, z337, z338, z339, z340, z341, u342, z343, ho344, ho345, ho346, ho347, hp348, hp349, hp350⟩ := hw332
            have b351 := hq_rng z336
            have b352 := hq_rng z337
            have b353 := hq_rng z338
            have b354 := hq_rng z339
            have b355 := hq_rng z340
            have b356 := hq_rng z341
            have b357 := hq_rng z343
            have hP := hP.trans hq334 (fun _ h => Bool.noConfusion h)
            have hf358 := hq_rgB hP.1 hy4 ho346
            have b359 := hq_rng r333
            refine lv_if_eq (tgt := 168) hx hb dX7_takeLine_142 (by decide) (fun c360 => ?_) (fun c360 => ?_)
            · have c360 : (r333).toInt = (0 : Int) := hq_eqi.mp c360
              have hF361 := hx_D.pos hp348 (by omega)
              have b362 := hF361.1
              have b363 := hF361.2.1
              refine lv_iconst (v := 0) hx hb dX7_takeLine_168 (by decide) ?_
              refine lv_istore_n (lv' := [(2, .int (0)), (1, .ref (it)), (0, .ref (kb + 2))]) hx hb dX7_takeLine_169 rfl hl (by decide) rfl (fun ls hl => ?_)
              refine lv_goto (tgt := 278) hx hb dX7_takeLine_170 (by decide) ?_
              refine lv_aload_n hx hb dX7_takeLine_278 rfl (lv_at hl 2 rfl) ?_
              refine hp_get (v := .ref (qb)) hx hb hts hown hZ ho344 fl_X7_30 rfl dX7_takeLine_279 ?_
              refine lv_dup hx hb dX7_takeLine_282 rfl ?_
              have fx364 : V330 (qb) = some (.inr (0, [.ref (qb + 1), .int (bc), .ref (qb + 14), .ref (qb + 75), .int (bv), .ref (qb + 76), .int (bl)])) := (fr335 (qb) (hq_tne hy5 hy2 (by simp)) (hq_tne hy5 hy3 (by simp)) (hq_tne hy5 hy4 (by simp)) (hq_tne hy5 hyi0 (by simp))).trans (fx319)
              refine hp_get (v := .int (bl)) hx hb hts hown hZ fx364 fl_X7_94 rfl dX7_takeLine_283 ?_
              refine lv_iconst (v := 1) hx hb dX7_takeLine_286 (by decide) ?_
              refine lv_iadd hx hb dX7_takeLine_287 ?_
              refine lv_topi (fun y365 ey366 => ?_)
              obtain ⟨k367, hk368, b369, b370⟩ := hq_add (bl) (1)
              rw [← ey366] at hk368 b369 b370
              have hk368 : (y365).toInt = (bl).toInt + (1 : Int) + k367 * 4294967296 := hk368
              obtain rfl : k367 = 0 := by omega
              refine hp_put hx hb hts hown hZ fx364 fp_X7_94 rfl rfl (Nat.le_of_ble_eq_true rfl) dX7_takeLine_288 (fun V371 _ _ e372 o373 hZ => ?_)
              have e372 : V371 (qb) = some (.inr (0, [.ref (qb + 1), .int (bc), .ref (qb + 14), .ref (qb + 75), .int (bv), .ref (qb + 76), .int (y365)])) := e372
              have hP := hP.put hy5 e372 o373 (hq_c6 hy6 hy7 hy8 hy9 (show 0 ≤ (bc).toInt ∧ (bc).toInt ≤ 6 by omega) (show 0 ≤ (bv).toInt ∧ (bv).toInt ≤ 30 by omega) (show 0 ≤ (y365).toInt ∧ (y365).toInt ≤ 60 by omega)) rfl
              refine lv_iload_n hx hb dX7_takeLine_291 rfl (lv_at hl 0 rfl) ?_
              have hl374 : (0 : Int32).toInt = 0 := by decide
              have fx375 : V371 (kb + 2) = some (.inr (7, [.int (z336), .int (z337), .ref (kb), .ref (qb), .int (z338), .int (z339), .int (z340), .ref (kb + 3)])) := (o373 (kb + 2) (hq_tne hy2 hy5 (by simp))).trans (ho344)
              have fx376 : V371 (kb + 3) = some (.inr (9, [.ref (kb + 4), .int (z341)])) := (o373 (kb + 3) (hq_tne hy3 hy5 (by simp))).trans (ho345)
              have fx377 : V371 (kb + 4) = some (.inl (cs 0, 12, .inl (u342))) := (o373 (kb + 4) (hq_tne hy4 hy5 (by simp))).trans (ho346)
              have fx378 : V371 (it) = some (.inr (5, [.int (tk), .int (z343), .int (-1), .int (-1), .int (-1), .int (-1), .int (-1), .int (0), .ref (it + 1), .ref (it + 3)])) := (o373 (it) (hq_tne hyi0 hy5 (by simp))).trans (ho347)
              have fx379 : V371 (it + 1) = some (.inr (9, [.ref (it + 2), .int (0)])) := (o373 (it + 1) (hq_tne hyi1 hy5 (by simp))).trans ((fr335 (it + 1) (hq_tne hyi1 hy2 (by simp)) (hq_tne hyi1 hy3 (by simp)) (hq_tne hyi1 hy4 (by simp)) (hq_tne hyi1 hyi0 (by simp))).trans ((fr39 (it + 1) (hq_tne hyi1 hy2 (by simp))).trans (ho30)))
              have fx380 : V371 (it + 2) = some (.inl (cs 0, 8, .inl (ff))) := (o373 (it + 2) (hq_tne hyi2 hy5 (by simp))).trans ((fr335 (it + 2) (hq_tne hyi2 hy2 (by simp)) (hq_tne hyi2 hy3 (by simp)) (hq_tne hyi2 hy4 (by simp)) (hq_tne hyi2 hyi0 (by simp))).trans ((fr39 (it + 2) (hq_tne hyi2 hy2 (by simp))).trans ((fr28 (it + 2) (hq_tne hyi2 hyi0 (by simp)) (hq_tne hyi2 hyi1 (by simp)) (hq_tne hyi2 hyi3 (by simp))).trans (hl2))))
              have fx381 : V371 (it + 3) = some (.inr (9, [.ref (it + 4), .int (0)])) := (o373 (it + 3) (hq_tne hyi3 hy5 (by simp))).trans ((fr335 (it + 3) (hq_tne hyi3 hy2 (by simp)) (hq_tne hyi3 hy3 (by simp)) (hq_tne hyi3 hy4 (by simp)) (hq_tne hyi3 hyi0 (by simp))).trans ((fr39 (it + 3) (hq_tne hyi3 hy2 (by simp))).trans (ho31)))
              have fx382 : V371 (it + 4) = some (.inl (cs 0, 8, .inl (sf))) := (o373 (it + 4) (hq_tne hyi4 hy5 (by simp))).trans ((fr335 (it + 4) (hq_tne hyi4 hy2 (by simp)) (hq_tne hyi4 hy3 (by simp)) (hq_tne hyi4 hy4 (by simp)) (hq_tne hyi4 hyi0 (by simp))).trans ((fr39 (it + 4) (hq_tne hyi4 hy2 (by simp))).trans ((fr28 (it + 4) (hq_tne hyi4 hyi0 (by simp)) (hq_tne hyi4 hyi1 (by simp)) (hq_tne hyi4 hyi3 (by simp))).trans (hl4))))
              have hl383 : (-1 : Int32).toInt = -1 := by decide
              have hl384 : (-1 : Int32).toInt = -1 := by decide
              have hl385 : (-1 : Int32).toInt = -1 := by decide
              have hl386 : (-1 : Int32).toInt = -1 := by decide
              have hl387 : (-1 : Int32).toInt = -1 := by decide
              have hl388 : (0 : Int32).toInt = 0 := by decide
              have hl389 : (0 : Int32).toInt = 0 := by decide
              have hl390 : (0 : Int32).toInt = 0 := by decide
              have hls9 : hx_LS cs V371 it := ⟨⟨tk, z343, -1, -1, -1, -1, -1, 0, fx378, by omega⟩, ⟨_, _, fx379, fx380, by omega⟩, ⟨_, _, fx381, fx382, by omega⟩⟩
              exact hp_zret hx hb hr rfl hlocks hZ ⟨rfl, hP, (fun x8 hne0 hne1 hne2 hne3 hne4 hne5 hne6 hne7 hne8 => (o373 x8 hne3).trans ((fr335 x8 hne0 hne1 hne2 hne4).trans ((fr39 x8 hne0).trans (fr28 x8 hne4 hne5 hne7)))), z336, z337, z338, z339, z340, z341, u342, y365, fx375, fx376, fx377, e372, hx_D.l (by omega) (by unfold sp_tl sp_line; (try dsimp only); (repeat (first | (rw [if_pos]; rotate_left; omega) | (rw [if_neg]; rotate_left; omega))); (try dsimp only); exact hF361), by omega, hSK0.ln (i := lz.length) (fun x7 hx7 => (o373 x7 (by omega)).trans ((fr335 x7 (by omega) (by omega) (by omega) (by omega)).trans ((fr39 x7 (by omega)).trans (fr28 x7 (by omega) (by omega) (by omega))))) (by rw [← hit]; exact hls9), by omega⟩ dX7_takeLine_292
            · have c360 : ¬ (r333).toInt = (0 : Int) := fun h9 => c360 (hq_eqi.mpr h9)
              obtain ⟨b391, ⟨b392, b393, hA394⟩, b395⟩ := hx_D.neg hp348 (by omega)
              obtain ⟨b396, b397, b398, b399⟩ := id hA394
              refine lv_aload_n hx hb dX7_takeLine_145 rfl (lv_at hl 1 rfl) ?_
              refine lv_aload_n hx hb dX7_takeLine_146 rfl (lv_at hl 0 rfl) ?_
              have hl400 : (-1 : Int32).toInt = -1 := by decide
              have hl401 : (-1 : Int32).toInt = -1 := by decide
              have hl402 : (-1 : Int32).toInt = -1 := by decide
              have hl403 : (-1 : Int32).toInt = -1 := by decide
              have hl404 : (-1 : Int32).toInt = -1 := by decide
              have hl405 : (0 : Int32).toInt = 0 := by decide
              have pk406 := pk327.keep (fr335 (kb) (hq_tne hy0 hy2 (by simp)) (hq_tne hy0 hy3 (by simp)) (hq_tne hy0 hy4 (by simp)) (hq_tne hy0 hyi0 (by simp))) (fr335 (kb + 1) (hq_tne hy1 hy2 (by simp)) (hq_tne hy1 hy3 (by simp)) (hq_tne hy1 hy4 (by simp)) (hq_tne hy1 hyi0 (by simp)))
              refine hp_calli (hp_runV (As := [.ref (it)]) (rest := []) hx hb hml hown hts (x_takeSlot l D cs B G V330 n hP.1 (kb) (qb) (w) (it) (bb) ((sp_where w cl (j + 1)).2.1) (z336) (z337) (z338) (z339) (z340) (tk) (z343) (-1) (-1) (-1) (-1) (-1) (0) hy0 hy1 hy2 hyi0 hyi1 hyi2 hyi3 hyi4 ho344 ho347 pk406 hA394 hq (by omega) (by omega) (by omega)) hZ ho344 cv_X7_113 rfl rfl ⟨Nat.le_of_ble_eq_true rfl, Nat.le_of_ble_eq_true rfl⟩ rfl hl.1 rfl (Nat.le_of_ble_eq_true rfl) dX7_takeLine_147 ⟨(Nat.le_of_ble_eq_true rfl), (Nat.le_of_ble_eq_true rfl)⟩) hZ (fun r410 V407 n408 _ _ hw409 hZ => ?_)
              obtain ⟨rfl, hq411, fr412, z413, z414, z415, z416, z417, z418, z419, ho420, ho421, hp422, hp423⟩ := hw409
              have b424 := hq_rng z413
              have b425 := hq_rng z414
              have b426 := hq_rng z415
              have b427 := hq_rng z416
              have b428 := hq_rng z417
              have b429 := hq_rng z418
              have b430 := hq_rng z419
              have hP := hP.trans hq411 (fun _ h => Bool.noConfusion h)
              have b431 := hq_rng r410
              refine lv_if_eq (tgt := 168) hx hb dX7_takeLine_150 (by decide) (fun c432 => ?_) (fun c432 => ?_)
              · have c432 : (r410).toInt = (0 : Int) := hq_eqi.mp c432
                have hF433 := hx_D.pos hp422 (by omega)
                have b434 := hF433.1
                have b435 := hF433.2.1
                refine lv_iconst (v := 0) hx hb dX7_takeLine_168 (by decide) ?_
                refine lv_istore_n (lv' := [(2, .int (0)), (1, .ref (it)), (0, .ref (kb + 2))]) hx hb dX7_takeLine_169 rfl hl (by decide) rfl (fun ls hl => ?_)
                refine lv_goto (tgt := 278) hx hb dX7_takeLine_170 (by decide) ?_
                refine lv_aload_n hx hb dX7_takeLine_278 rfl (lv_at hl 2 rfl) ?_
                refine hp_get (v := .ref (qb)) hx hb hts hown hZ ho420 fl_X7_30 rfl dX7_takeLine_279 ?_
                refine lv_dup hx hb dX7_takeLine_282 rfl ?_
                have fx436 : V407 (qb) = some (.inr (0, [.ref (qb + 1), .int (bc), .ref (qb + 14), .ref (qb + 75), .int (bv), .ref (qb + 76), .int (bl)])) := (fr412 (qb) (hq_tne hy5 hy2 (by simp)) (hq_tne hy5 hyi0 (by simp))).trans ((fr335 (qb) (hq_tne hy5 hy2 (by simp)) (hq_tne hy5 hy3 (by simp)) (hq_tne hy5 hy4 (by simp)) (hq_tne hy5 hyi0 (by simp))).trans (fx319))
                refine hp_get (v := .int (bl)) hx hb hts hown hZ fx436 fl_X7_94 rfl dX7_takeLine_283 ?_
                refine lv_iconst (v := 1) hx hb dX7_takeLine_286 (by decide) ?_
                refine lv_iadd hx hb dX7_takeLine_287 ?_
                refine lv_topi (fun y437 ey438 => ?_)
                obtain ⟨k439, hk440, b441, b442⟩ := hq_add (bl) (1)
                rw [← ey438] at hk440 b441 b442
                have hk440 : (y437).toInt = (bl).toInt + (1 : Int) + k439 * 4294967296 := hk440
                obtain rfl : k439 = 0 := by omega
                refine hp_put hx hb hts hown hZ fx436 fp_X7_94 rfl rfl (Nat.le_of_ble_eq_true rfl) dX7_takeLine_288 (fun V443 _ _ e444 o445 hZ => ?_)
                have e444 : V443 (qb) = some (.inr (0, [.ref (qb + 1), .int (bc), .ref (qb + 14), .ref (qb + 75), .int (bv), .ref (qb + 76), .int (y437)])) := e444
                have hP := hP.put hy5 e444 o445 (hq_c6 hy6 hy7 hy8 hy9 (show 0 ≤ (bc).toInt ∧ (bc).toInt ≤ 6 by omega) (show 0 ≤ (bv).toInt ∧ (bv).toInt ≤ 30 by omega) (show 0 ≤ (y437).toInt ∧ (y437).toInt ≤ 60 by omega)) rfl
                refine lv_iload_n hx hb dX7_takeLine_291 rfl (lv_at hl 0 rfl) ?_
                have hl446 : (0 : Int32).toInt = 0 := by decide
                have fx447 : V443 (kb + 2) = some (.inr (7, [.int (z413), .int (z414), .ref (kb), .ref (qb), .int (z415), .int (z416), .int (z417), .ref (kb + 3)])) := (o445 (kb + 2) (hq_tne hy2 hy5 (by simp))).trans (ho420)
                have fx448 : V443 (kb + 3) = some (.inr (9, [.ref (kb + 4), .int (z341)])) := (o445 (kb + 3) (hq_tne hy3 hy5 (by simp))).trans ((fr412 (kb + 3) (hq_tne hy3 hy2 (by simp)) (hq_tne hy3 hyi0 (by simp))).trans (ho345))
                have fx449 : V443 (kb + 4) = some (.inl (cs 0, 12, .inl (u342))) := (o445 (kb + 4) (hq_tne hy4 hy5 (by simp))).trans ((fr412 (kb + 4) (hq_tne hy4 hy2 (by simp)) (hq_tne hy4 hyi0 (by simp))).trans (ho346))
                have fx450 : V443 (it) = some (.inr (5, [.int (tk), .int (z343), .int (z418), .int (z419), .int (-1), .int (-1), .int (-1), .int (0), .ref (it + 1), .ref (it + 3)])) := (o445 (it) (hq_tne hyi0 hy5 (by simp))).trans (ho421)
                have fx451 : V443 (it + 1) = some (.inr (9, [.ref (it + 2), .int (0)])) := (o445 (it + 1) (hq_tne hyi1 hy5 (by simp))).trans ((fr412 (it + 1) (hq_tne hyi1 hy2 (by simp)) (hq_tne hyi1 hyi0 (by simp))).trans ((fr335 (it + 1) (hq_tne hyi1 hy2 (by simp)) (hq_tne hyi1 hy3 (by simp)) (hq_tne hyi1 hy4 (by simp)) (hq_tne hyi1 hyi0 (by simp))).trans ((fr39 (it + 1) (hq_tne hyi1 hy2 (by simp))).trans (ho30))))
                have fx452 : V443 (it + 2) = some (.inl (cs 0, 8, .inl (ff))) := (o445 (it + 2) (hq_tne hyi2 hy5 (by simp))).trans ((fr412 (it + 2) (hq_tne hyi2 hy2 (by simp)) (hq_tne hyi2 hyi0 (by simp))).trans ((fr335 (it + 2) (hq_tne hyi2 hy2 (by simp)) (hq_tne hyi2 hy3 (by simp)) (hq_tne hyi2 hy4 (by simp)) (hq_tne hyi2 hyi0 (by simp))).trans ((fr39 (it + 2) (hq_tne hyi2 hy2 (by simp))).trans ((fr28 (it + 2) (hq_tne hyi2 hyi0 (by simp)) (hq_tne hyi2 hyi1 (by simp)) (hq_tne hyi2 hyi3 (by simp))).trans (hl2)))))
                have fx453 : V443 (it + 3) = some (.inr (9, [.ref (it + 4), .int (0)])) := (o445 (it + 3) (hq_tne hyi3 hy5 (by simp))).trans ((fr412 (it + 3) (hq_tne hyi3 hy2 (by simp)) (hq_tne hyi3 hyi0 (by simp))).trans ((fr335 (it + 3) (hq_tne hyi3 hy2 (by simp)) (hq_tne hyi3 hy3 (by simp)) (hq_tne hyi3 hy4 (by simp)) (hq_tne hyi3 hyi0 (by simp))).trans ((fr39 (it + 3) (hq_tne hyi3 hy2 (by simp))).trans (ho31))))
                have fx454 : V443 (it + 4) = some (.inl (cs 0, 8, .inl (sf))) := (o445 (it + 4) (hq_tne hyi4 hy5 (by simp))).trans ((fr412 (it + 4) (hq_tne hyi4 hy2 (by simp)) (hq_tne hyi4 hyi0 (by simp))).trans ((fr335 (it + 4) (hq_tne hyi4 hy2 (by simp)) (hq_tne hyi4 hy3 (by simp)) (hq_tne hyi4 hy4 (by simp)) (hq_tne hyi4 hyi0 (by simp))).trans ((fr39 (it + 4) (hq_tne hyi4 hy2 (by simp))).trans ((fr28 (it + 4) (hq_tne hyi4 hyi0 (by simp)) (hq_tne hyi4 hyi1 (by simp)) (hq_tne hyi4 hyi3 (by simp))).trans (hl4)))))
                have hl455 : (-1 : Int32).toInt = -1 := by decide
                have hl456 : (-1 : Int32).toInt = -1 := by decide
                have hl457 : (-1 : Int32).toInt = -1 := by decide
                have hl458 : (0 : Int32).toInt = 0 := by decide
                have hl459 : (0 : Int32).toInt = 0 := by decide
                have hl460 : (0 : Int32).toInt = 0 := by decide
                have hls9 : hx_LS cs V443 it := ⟨⟨tk, z343, z418, z419, -1, -1, -1, 0, fx450, by omega⟩, ⟨_, _, fx451, fx452, by omega⟩, ⟨_, _, fx453, fx454, by omega⟩⟩
                exact hp_zret hx hb hr rfl hlocks hZ ⟨rfl, hP, (fun x8 hne0 hne1 hne2 hne3 hne4 hne5 hne6 hne7 hne8 => (o445 x8 hne3).trans ((fr412 x8 hne0 hne4).trans ((fr335 x8 hne0 hne1 hne2 hne4).trans ((fr39 x8 hne0).trans (fr28 x8 hne4 hne5 hne7))))), z413, z414, z415, z416, z417, z341, u342, y437, fx447, fx448, fx449, e444, hx_D.l (by omega) (by unfold sp_tl sp_line; (try dsimp only); (repeat (first | (rw [if_pos]; rotate_left; omega) | (rw [if_neg]; rotate_left; omega))); (try dsimp only); exact hF433), by omega, hSK0.ln (i := lz.length) (fun x7 hx7 => (o445 x7 (by omega)).trans ((fr412 x7 (by omega) (by omega)).trans ((fr335 x7 (by omega) (by omega) (by omega) (by omega)).trans ((fr39 x7 (by omega)).trans (fr28 x7 (by omega) (by omega) (by omega)))))) (by rw [← hit]; exact hls9), by omega⟩ dX7_takeLine_292
              · have c432 : ¬ (r410).toInt = (0 : Int) := fun h9 => c432 (hq_eqi.mpr h9)
                obtain ⟨b461, ⟨b462, b463, hA464⟩, b465, b466⟩ := hx_D.neg hp422 (by omega)
                obtain ⟨b467, b468, b469, b470⟩ := id hA464
                refine lv_aload_n hx hb dX7_takeLine_153 rfl (lv_at hl 1 rfl) ?_
                refine lv_aload_n hx hb dX7_takeLine_154 rfl (lv_at hl 0 rfl) ?_
                refine hp_get (v := .ref (it + 1)) hx hb hts hown hZ ho421 fl_X7_119 rfl dX7_takeLine_155 ?_
                have fx471 : V407 (it + 1) = some (.inr (9, [.ref (it + 2), .int (0)])) := (fr412 (it + 1) (hq_tne hyi1 hy2 (by simp)) (hq_tne hyi1 hyi0 (by simp))).trans ((fr335 (it + 1) (hq_tne hyi1 hy2 (by simp)) (hq_tne hyi1 hy3 (by simp)) (hq_tne hyi1 hy4 (by simp)) (hq_tne hyi1 hyi0 (by simp))).trans ((fr39 (it + 1) (hq_tne hyi1 hy2 (by simp))).trans (ho30)))
                have fx472 : V407 (it + 2) = some (.inl (cs 0, 8, .inl (ff))) := (fr412 (it + 2) (hq_tne hyi2 hy2 (by simp)) (hq_tne hyi2 hyi0 (by simp))).trans ((fr335 (it + 2) (hq_tne hyi2 hy2 (by simp)) (hq_tne hyi2 hy3 (by simp)) (hq_tne hyi2 hy4 (by simp)) (hq_tne hyi2 hyi0 (by simp))).trans ((fr39 (it + 2) (hq_tne hyi2 hy2 (by simp))).trans ((fr28 (it + 2) (hq_tne hyi2 hyi0 (by simp)) (hq_tne hyi2 hyi1 (by simp)) (hq_tne hyi2 hyi3 (by simp))).trans (hl2))))
                have hl473 : (0 : Int32).toInt = 0 := by decide
                have pk474 := pk406.keep (fr412 (kb) (hq_tne hy0 hy2 (by simp)) (hq_tne hy0 hyi0 (by simp))) (fr412 (kb + 1) (hq_tne hy1 hy2 (by simp)) (hq_tne hy1 hyi0 (by simp)))
                refine hp_calli (hp_runV (As := [.ref (it + 1)]) (rest := []) hx hb hml hown hts (x_takeLetters l D cs B G V407 n hP.1 (kb) (qb) (w) ((sp_slot w ((sp_where w cl (j + 1)).2.1)).2.1) (it + 1) (z413) (z414) (z415) (z416) (z417) (0) (ff) hy0 hy1 hy2 hyi1 hyi2 ho420 fx471 fx472 pk474 hA464 (by omega) (by omega)) hZ ho420 cv_X7_122 rfl rfl ⟨Nat.le_of_ble_eq_true rfl, Nat.le_of_ble_eq_true rfl⟩ rfl hl.1 rfl (Nat.le_of_ble_eq_true rfl) dX7_takeLine_158 ⟨(Nat.le_of_ble_eq_true rfl), (Nat.le_of_ble_eq_true rfl)⟩) hZ (fun r478 V475 n476 _ _ hw477 hZ => ?_)
                obtain ⟨rfl, hq479, fr480, z481, z482, z483, z484, z485, z486, u487, ho488, ho489, ho490, hp491, hp492, hp493⟩ := hw477
                have b494 := hq_rng z481
                have b495 := hq_rng z482
                have b496 := hq_rng z483
                have b497 := hq_rng z484
                have b498 := hq_rng z485
                have b499 := hq_rng z486
                have hP := hP.trans hq479 (fun _ h => Bool.noConfusion h)
                have hf500 := hq_rgB hP.1 hyi2 ho490
                have b501 := hq_rng r478
                refine lv_if_eq (tgt := 168) hx hb dX7_takeLine_161 (by decide) (fun c502 => ?_) (fun c502 => ?_)
                · have c502 : (r478).toInt = (0 : Int) := hq_eqi.mp c502
                  have hF503 := hx_D.pos hp491 (by omega)
                  have b504 := hF503.1
                  have b505 := hF503.2.1
                  refine lv_iconst (v := 0) hx hb dX7_takeLine_168 (by decide) ?_
                  refine lv_istore_n (lv' := [(2, .int (0)), (1, .ref (it)), (0, .ref (kb + 2))]) hx hb dX7_takeLine_169 rfl hl (by decide) rfl (fun ls hl => ?_)
                  refine lv_goto (tgt := 278) hx hb dX7_takeLine_170 (by decide) ?_
                  refine lv_aload_n hx hb dX7_takeLine_278 rfl (lv_at hl 2 rfl) ?_
                  refine hp_get (v := .ref (qb)) hx hb hts hown hZ ho488 fl_X7_30 rfl dX7_takeLine_279 ?_
                  refine lv_dup hx hb dX7_takeLine_282 rfl ?_
                  have fx506 : V475 (qb) = some (.inr (0, [.ref (qb + 1), .int (bc), .ref (qb + 14), .ref (qb + 75), .int (bv), .ref (qb + 76), .int (bl)])) := (fr480 (qb) (hq_tne hy5 hy2 (by simp)) (hq_tne hy5 hyi1 (by simp)) (hq_tne hy5 hyi2 (by simp))).trans ((fr412 (qb) (hq_tne hy5 hy2 (by simp)) (hq_tne hy5 hyi0 (by simp))).trans ((fr335 (qb) (hq_tne hy5 hy2 (by simp)) (hq_tne hy5 hy3 (by simp)) (hq_tne hy5 hy4 (by simp)) (hq_tne hy5 hyi0 (by simp))).trans (fx319)))
                  refine hp_get (v := .int (bl)) hx hb hts hown hZ fx506 fl_X7_94 rfl dX7_takeLine_283 ?_
                  refine lv_iconst (v := 1) hx hb dX7_takeLine_286 (by decide) ?_
                  refine lv_iadd hx hb dX7_takeLine_287 ?_
                  refine lv_topi (fun y507 ey508 => ?_)
                  obtain ⟨k509, hk510, b511, b512⟩ := hq_add (bl) (1)
                  rw [← ey508] at hk510 b511 b512
                  have hk510 : (y507).toInt = (bl).toInt + (1 : Int) + k509 * 4294967296 := hk510
                  obtain rfl : k509 = 0 := by omega
                  refine hp_put hx hb hts hown hZ fx506 fp_X7_94 rfl rfl (Nat.le_of_ble_eq_true rfl) dX7_takeLine_288 (fun V513 _ _ e514 o515 hZ => ?_)
                  have e514 : V513 (qb) = some (.inr (0, [.ref (qb + 1), .int (bc), .ref (qb + 14), .ref (qb + 75), .int (bv), .ref (qb + 76), .int (y507)])) := e514
                  have hP := hP.put hy5 e514 o515 (hq_c6 hy6 hy7 hy8 hy9 (show 0 ≤ (bc).toInt ∧ (bc).toInt ≤ 6 by omega) (show 0 ≤ (bv).toInt ∧ (bv).toInt ≤ 30 by omega) (show 0 ≤ (y507).toInt ∧ (y507).toInt ≤ 60 by omega)) rfl
                  refine lv_iload_n hx hb dX7_takeLine_291 rfl (lv_at hl 0 rfl) ?_
                  have hl516 : (0 : Int32).toInt = 0 := by decide
                  have fx517 : V513 (kb + 2) = some (.inr (7, [.int (z481), .int (z482), .ref (kb), .ref (qb), .int (z483), .int (z484), .int (z485), .ref (kb + 3)])) := (o515 (kb + 2) (hq_tne hy2 hy5 (by simp))).trans (ho488)
                  have fx518 : V513 (kb + 3) = some (.inr (9, [.ref (kb + 4), .int (z341)])) := (o515 (kb + 3) (hq_tne hy3 hy5 (by simp))).trans ((fr480 (kb + 3) (hq_tne hy3 hy2 (by simp)) (hq_tne hy3 hyi1 (by simp)) (hq_tne hy3 hyi2 (by simp))).trans ((fr412 (kb + 3) (hq_tne hy3 hy2 (by simp)) (hq_tne hy3 hyi0 (by simp))).trans (ho345)))
                  have fx519 : V513 (kb + 4) = some (.inl (cs 0, 12, .inl (u342))) := (o515 (kb + 4) (hq_tne hy4 hy5 (by simp))).trans ((fr480 (kb + 4) (hq_tne hy4 hy2 (by simp)) (hq_tne hy4 hyi1 (by simp)) (hq_tne hy4 hyi2 (by simp))).trans ((fr412 (kb + 4) (hq_tne hy4 hy2 (by simp)) (hq_tne hy4 hyi0 (by simp))).trans (ho346)))
                  have fx520 : V513 (it) = some (.inr (5, [.int (tk), .int (z343), .int (z418), .int (z419), .int (-1), .int (-1), .int (-1), .int (0), .ref (it + 1), .ref (it + 3)])) := (o515 (it) (hq_tne hyi0 hy5 (by simp))).trans ((fr480 (it) (hq_tne hyi0 hy2 (by simp)) (hq_tne hyi0 hyi1 (by simp)) (hq_tne hyi0 hyi2 (by simp))).trans (ho421))
                  have fx521 : V513 (it + 1) = some (.inr (9, [.ref (it + 2), .int (z486)])) := (o515 (it + 1) (hq_tne hyi1 hy5 (by simp))).trans (ho489)
                  have fx522 : V513 (it + 2) = some (.inl (cs 0, 8, .inl (u487))) := (o515 (it + 2) (hq_tne hyi2 hy5 (by simp))).trans (ho490)
                  have fx523 : V513 (it + 3) = some (.inr (9, [.ref (it + 4), .int (0)])) := (o515 (it + 3) (hq_tne hyi3 hy5 (by simp))).trans ((fr480 (it + 3) (hq_tne hyi3 hy2 (by simp)) (hq_ne it 3 1 (by decide)) (hq_tne hyi3 hyi2 (by simp))).trans ((fr412 (it + 3) (hq_tne hyi3 hy2 (by simp)) (hq_tne hyi3 hyi0 (by simp))).trans ((fr335 (it + 3) (hq_tne hyi3 hy2 (by simp)) (hq_tne hyi3 hy3 (by simp)) (hq_tne hyi3 hy4 (by simp)) (hq_tne hyi3 hyi0 (by simp))).trans ((fr39 (it + 3) (hq_tne hyi3 hy2 (by simp))).trans (ho31)))))
                  have fx524 : V513 (it + 4) = some (.inl (cs 0, 8, .inl (sf))) := (o515 (it + 4) (hq_tne hyi4 hy5 (by simp))).trans ((fr480 (it + 4) (hq_tne hyi4 hy2 (by simp)) (hq_tne hyi4 hyi1 (by simp)) (hq_ne it 4 2 (by decide))).trans ((fr412 (it + 4) (hq_tne hyi4 hy2 (by simp)) (hq_tne hyi4 hyi0 (by simp))).trans ((fr335 (it + 4) (hq_tne hyi4 hy2 (by simp)) (hq_tne hyi4 hy3 (by simp)) (hq_tne hyi4 hy4 (by simp)) (hq_tne hyi4 hyi0 (by simp))).trans ((fr39 (it + 4) (hq_tne hyi4 hy2 (by simp))).trans ((fr28 (it + 4) (hq_tne hyi4 hyi0 (by simp)) (hq_tne hyi4 hyi1 (by simp)) (hq_tne hyi4 hyi3 (by simp))).trans (hl4))))))
                  have hl525 : (-1 : Int32).toInt = -1 := by decide
                  have hl526 : (-1 : Int32).toInt = -1 := by decide
                  have hl527 : (-1 : Int32).toInt = -1 := by decide
                  have hl528 : (0 : Int32).toInt = 0 := by decide
                  have hl529 : (0 : Int32).toInt = 0 := by decide
                  have hls9 : hx_LS cs V513 it := ⟨⟨tk, z343, z418, z419, -1, -1, -1, 0, fx520, by omega⟩, ⟨_, _, fx521, fx522, by omega⟩, ⟨_, _, fx523, fx524, by omega⟩⟩
                  exact hp_zret hx hb hr rfl hlocks hZ ⟨rfl, hP, (fun x8 hne0 hne1 hne2 hne3 hne4 hne5 hne6 hne7 hne8 => (o515 x8 hne3).trans ((fr480 x8 hne0 hne5 hne6).trans ((fr412 x8 hne0 hne4).trans ((fr335 x8 hne0 hne1 hne2 hne4).trans ((fr39 x8 hne0).trans (fr28 x8 hne4 hne5 hne7)))))), z481, z482, z483, z484, z485, z341, u342, y507, fx517, fx518, fx519, e514, hx_D.l (by omega) (by unfold sp_tl sp_line; (try dsimp only); (repeat (first | (rw [if_pos]; rotate_left; omega) | (rw [if_neg]; rotate_left; omega))); (try dsimp only); exact hF503), by omega, hSK0.ln (i := lz.length) (fun x7 hx7 => (o515 x7 (by omega)).trans ((fr480 x7 (by omega) (by omega) (by omega)).trans ((fr412 x7 (by omega) (by omega)).trans ((fr335 x7 (by omega) (by omega) (by omega) (by omega)).trans ((fr39 x7 (by omega)).trans (fr28 x7 (by omega) (by omega) (by omega))))))) (by rw [← hit]; exact hls9), by omega⟩ dX7_takeLine_292
                · have c502 : ¬ (r478).toInt = (0 : Int) := fun h9 => c502 (hq_eqi.mpr h9)
                  obtain ⟨b530, ⟨b531, b532, hA533⟩, b534, b535⟩ := hx_D.neg hp491 (by omega)
                  obtain ⟨b536, b537, b538, b539⟩ := id hA533
                  refine lv_iconst (v := 1) hx hb dX7_takeLine_164 (by decide) ?_
                  refine lv_goto (tgt := 169) hx hb dX7_takeLine_165 (by decide) ?_
                  refine lv_istore_n (lv' := [(2, .int (1)), (1, .ref (it)), (0, .ref (kb + 2))]) hx hb dX7_takeLine_169 rfl hl (by decide) rfl (fun ls hl => ?_)
                  refine lv_goto (tgt := 278) hx hb dX7_takeLine_170 (by decide) ?_
                  refine lv_aload_n hx hb dX7_takeLine_278 rfl (lv_at hl 2 rfl) ?_
                  refine hp_get (v := .ref (qb)) hx hb hts hown hZ ho488 fl_X7_30 rfl dX7_takeLine_279 ?_
                  refine lv_dup hx hb dX7_takeLine_282 rfl ?_
                  have fx540 : V475 (qb) = some (.inr (0, [.ref (qb + 1), .int (bc), .ref (qb + 14), .ref (qb + 75), .int (bv), .ref (qb + 76), .int (bl)])) := (fr480 (qb) (hq_tne hy5 hy2 (by simp)) (hq_tne hy5 hyi1 (by simp)) (hq_tne hy5 hyi2 (by simp))).trans ((fr412 (qb) (hq_tne hy5 hy2 (by simp)) (hq_tne hy5 hyi0 (by simp))).trans ((fr335 (qb) (hq_tne hy5 hy2 (by simp)) (hq_tne hy5 hy3 (by simp)) (hq_tne hy5 hy4 (by simp)) (hq_tne hy5 hyi0 (by simp))).trans (fx319)))
                  refine hp_get (v := .int (bl)) hx hb hts hown hZ fx540 fl_X7_94 rfl dX7_takeLine_283 ?_
                  refine lv_iconst (v := 1) hx hb dX7_takeLine_286 (by decide) ?_
                  refine lv_iadd hx hb dX7_takeLine_287 ?_
                  refine lv_topi (fun y541 ey542 => ?_)
                  obtain ⟨k543, hk544, b545, b546⟩ := hq_add (bl) (1)
                  rw [← ey542] at hk544 b545 b546
                  have hk544 : (y541).toInt = (bl).toInt + (1 : Int) + k543 * 4294967296 := hk544
                  obtain rfl : k543 = 0 := by omega
                  refine hp_put hx hb hts hown hZ fx540 fp_X7_94 rfl rfl (Nat.le_of_ble_eq_true rfl) dX7_takeLine_288 (fun V547 _ _ e548 o549 hZ => ?_)
                  have e548 : V547 (qb) = some (.inr (0, [.ref (qb + 1), .int (bc), .ref (qb + 14), .ref (qb + 75), .int (bv), .ref (qb + 76), .int (y541)])) := e548
                  have hP := hP.put hy5 e548 o549 (hq_c6 hy6 hy7 hy8 hy9 (show 0 ≤ (bc).toInt ∧ (bc).toInt ≤ 6 by omega) (show 0 ≤ (bv).toInt ∧ (bv).toInt ≤ 30 by omega) (show 0 ≤ (y541).toInt ∧ (y541).toInt ≤ 60 by omega)) rfl
                  refine lv_iload_n hx hb dX7_takeLine_291 rfl (lv_at hl 0 rfl) ?_
                  have hl550 : (1 : Int32).toInt = 1 := by decide
                  have fx551 : V547 (kb + 2) = some (.inr (7, [.int (z481), .int (z482), .ref (kb), .ref (qb), .int (z483), .int (z484), .int (z485), .ref (kb + 3)])) := (o549 (kb + 2) (hq_tne hy2 hy5 (by simp))).trans (ho488)
                  have fx552 : V547 (kb + 3) = some (.inr (9, [.ref (kb + 4), .int (z341)])) := (o549 (kb + 3) (hq_tne hy3 hy5 (by simp))).trans ((fr480 (kb + 3) (hq_tne hy3 hy2 (by simp)) (hq_tne hy3 hyi1 (by simp)) (hq_tne hy3 hyi2 (by simp))).trans ((fr412 (kb + 3) (hq_tne hy3 hy2 (by simp)) (hq_tne hy3 hyi0 (by simp))).trans (ho345)))
                  have fx553 : V547 (kb + 4) = some (.inl (cs 0, 12, .inl (u342))) := (o549 (kb + 4) (hq_tne hy4 hy5 (by simp))).trans ((fr480 (kb + 4) (hq_tne hy4 hy2 (by simp)) (hq_tne hy4 hyi1 (by simp)) (hq_tne hy4 hyi2 (by simp))).trans ((fr412 (kb + 4) (hq_tne hy4 hy2 (by simp)) (hq_tne hy4 hyi0 (by simp))).trans (ho346)))
                  have fx554 : V547 (it) = some (.inr (5, [.int (tk), .int (z343), .int (z418), .int (z419), .int (-1), .int (-1), .int (-1), .int (0), .ref (it + 1), .ref (it + 3)])) := (o549 (it) (hq_tne hyi0 hy5 (by simp))).trans ((fr480 (it) (hq_tne hyi0 hy2 (by simp)) (hq_tne hyi0 hyi1 (by simp)) (hq_tne hyi0 hyi2 (by simp))).trans (ho421))
                  have fx555 : V547 (it + 1) = some (.inr (9, [.ref (it + 2), .int (z486)])) := (o549 (it + 1) (hq_tne hyi1 hy5 (by simp))).trans (ho489)
                  have fx556 : V547 (it + 2) = some (.inl (cs 0, 8, .inl (u487))) := (o549 (it + 2) (hq_tne hyi2 hy5 (by simp))).trans (ho490)
                  have fx557 : V547 (it + 3) = some (.inr (9, [.ref (it + 4), .int (0)])) := (o549 (it + 3) (hq_tne hyi3 hy5 (by simp))).trans ((fr480 (it + 3) (hq_tne hyi3 hy2 (by simp)) (hq_ne it 3 1 (by decide)) (hq_tne hyi3 hyi2 (by simp))).trans ((fr412 (it + 3) (hq_tne hyi3 hy2 (by simp)) (hq_tne hyi3 hyi0 (by simp))).trans ((fr335 (it + 3) (hq_tne hyi3 hy2 (by simp)) (hq_tne hyi3 hy3 (by simp)) (hq_tne hyi3 hy4 (by simp)) (hq_tne hyi3 hyi0 (by simp))).trans ((fr39 (it + 3) (hq_tne hyi3 hy2 (by simp))).trans (ho31)))))
                  have fx558 : V547 (it + 4) = some (.inl (cs 0, 8, .inl (sf))) := (o549 (it + 4) (hq_tne hyi4 hy5 (by simp))).trans ((fr480 (it + 4) (hq_tne hyi4 hy2 (by simp)) (hq_tne hyi4 hyi1 (by simp)) (hq_ne it 4 2 (by decide))).trans ((fr412 (it + 4) (hq_tne hyi4 hy2 (by simp)) (hq_tne hyi4 hyi0 (by simp))).trans ((fr335 (it + 4) (hq_tne hyi4 hy2 (by simp)) (hq_tne hyi4 hy3 (by simp)) (hq_tne hyi4 hy4 (by simp)) (hq_tne hyi4 hyi0 (by simp))).trans ((fr39 (it + 4) (hq_tne hyi4 hy2 (by simp))).trans ((fr28 (it + 4) (hq_tne hyi4 hyi0 (by simp)) (hq_tne hyi4 hyi1 (by simp)) (hq_tne hyi4 hyi3 (by simp))).trans (hl4))))))
                  have hl559 : (-1 : Int32).toInt = -1 := by decide
                  have hl560 : (-1 : Int32).toInt = -1 := by decide
                  have hl561 : (-1 : Int32).toInt = -1 := by decide
                  have hl562 : (0 : Int32).toInt = 0 := by decide
                  have hl563 : (0 : Int32).toInt = 0 := by decide
                  have hls9 : hx_LS cs V547 it := ⟨⟨tk, z343, z418, z419, -1, -1, -1, 0, fx554, by omega⟩, ⟨_, _, fx555, fx556, by omega⟩, ⟨_, _, fx557, fx558, by omega⟩⟩
                  exact hp_zret hx hb hr rfl hlocks hZ ⟨rfl, hP, (fun x8 hne0 hne1 hne2 hne3 hne4 hne5 hne6 hne7 hne8 => (o549 x8 hne3).trans ((fr480 x8 hne0 hne5 hne6).trans ((fr412 x8 hne0 hne4).trans ((fr335 x8 hne0 hne1 hne2 hne4).trans ((fr39 x8 hne0).trans (fr28 x8 hne4 hne5 hne7)))))), z481, z482, z483, z484, z485, z341, u342, y541, fx551, fx552, fx553, e548, hx_D.r (by omega) (by unfold sp_tl sp_line; (try dsimp only); (repeat (first | (rw [if_pos]; rotate_left; omega) | (rw [if_neg]; rotate_left; omega))); (try dsimp only); exact ⟨by first | rfl | omega, ⟨by omega, by omega, hA533⟩, by omega, ⟨tk, z343, z418, z419, -1, -1, -1, 0, fx554, by first | omega | (dsimp only; omega), by first | omega | (dsimp only; omega), by first | omega | (dsimp only; omega), by first | omega | (dsimp only; omega), fun h9 => by first | omega | (dsimp only at h9 ⊢; omega), fun h9 => by first | omega | (dsimp only at h9 ⊢; omega), ⟨_, _, fx555, fx556, by first | omega | (dsimp only; omega), by first | omega | (dsimp only; omega), b535⟩, ⟨_, _, fx557, fx558, by first | omega | (dsimp only; omega), by first | omega | (dsimp only; omega), fun k9 hk9 => by first | omega | (dsimp only at hk9; omega)⟩⟩, by omega⟩), by omega, hSK0.ln (i := lz.length) (fun x7 hx7 => (o549 x7 (by omega)).trans ((fr480 x7 (by omega) (by omega) (by omega)).trans ((fr412 x7 (by omega) (by omega)).trans ((fr335 x7 (by omega) (by omega) (by omega) (by omega)).trans ((fr39 x7 (by omega)).trans (fr28 x7 (by omega) (by omega) (by omega))))))) (by rw [← hit]; exact hls9), by omega⟩ dX7_takeLine_292
          ·
            rcases Classical.em (tk = 2) with h564 | h564
            · refine lv_tableIn (off := 102) (tgt := 173) hx hb dX7_takeLine_71 (by rw [h564]; decide) (by rw [h564]; decide) (by rw [h564]; decide) (by decide) ?_
              have b565 : (tk).toInt = 2 := by rw [h564]; decide
              refine lv_aload_n hx hb dX7_takeLine_173 rfl (lv_at hl 1 rfl) ?_
              refine lv_aload_n hx hb dX7_takeLine_174 rfl (lv_at hl 0 rfl) ?_
              have fx566 : V34 (it + 1) = some (.inr (9, [.ref (it + 2), .int (0)])) := (fr39 (it + 1) (hq_tne hyi1 hy2 (by simp))).trans (ho30)
              have fx567 : V34 (it + 2) = some (.inl (cs 0, 8, .inl (ff))) := (fr39 (it + 2) (hq_tne hyi2 hy2 (by simp))).trans ((fr28 (it + 2) (hq_tne hyi2 hyi0 (by simp)) (hq_tne hyi2 hyi1 (by simp)) (hq_tne hyi2 hyi3 (by simp))).trans (hl2))
              have fx568 : V34 (it + 3) = some (.inr (9, [.ref (it + 4), .int (0)])) := (fr39 (it + 3) (hq_tne hyi3 hy2 (by simp))).trans (ho31)
              have fx569 : V34 (it + 4) = some (.inl (cs 0, 8, .inl (sf))) := (fr39 (it + 4) (hq_tne hyi4 hy2 (by simp))).trans ((fr28 (it + 4) (hq_tne hyi4 hyi0 (by simp)) (hq_tne hyi4 hyi1 (by simp)) (hq_tne hyi4 hyi3 (by simp))).trans (hl4))
              have hl570 : (-1 : Int32).toInt = -1 := by decide
              have hl571 : (-1 : Int32).toInt = -1 := by decide
              have hl572 : (-1 : Int32).toInt = -1 := by decide
              have hl573 : (-1 : Int32).toInt = -1 := by decide
              have hl574 : (-1 : Int32).toInt = -1 := by decide
              have hl575 : (-1 : Int32).toInt = -1 := by decide
              have hl576 : (0 : Int32).toInt = 0 := by decide
              have hl577 : (0 : Int32).toInt = 0 := by decide
              have hl578 : (0 : Int32).toInt = 0 := by decide
              have pk579 := pk33.keep (fr39 (kb) (hq_tne hy0 hy2 (by simp))) (fr39 (kb + 1) (hq_tne hy1 hy2 (by simp)))
              refine hp_calli (hp_runV (As := [.ref (it)]) (rest := []) hx hb hml hown hts (x_takeChange l D cs B G V34 n hP.1 (kb) (qb) (w) (it) (bb) (j + 1) (fk) (fp) (z40) (z41) (z42) (tk) (-1) (-1) (-1) (-1) (-1) (-1) (0) (0) (ff) (0) (sf) hy0 hy1 hy2 hyi0 hyi1 hyi2 hyi3 hyi4 ho43 fx52 fx566 fx567 fx568 fx569 pk579 hp44 hq (by omega) (by omega) (by omega)) hZ ho43 cv_X7_116 rfl rfl ⟨Nat.le_of_ble_eq_true rfl, Nat.le_of_ble_eq_true rfl⟩ rfl hl.1 rfl (Nat.le_of_ble_eq_true rfl) dX7_takeLine_175 ⟨(Nat.le_of_ble_eq_true rfl), (Nat.le_of_ble_eq_true rfl)⟩) hZ (fun r583 V580 n581 _ _ hw582 hZ => ?_)
              obtain ⟨rfl, hq584, fr585, z586, z587, z588, z589, z590, z591, u592, z593, u594, ho595, ho596, ho597, ho598, ho599, hp600, hp601, hp602⟩ := hw582
              have b603 := hq_rng z586
              have b604 := hq_rng z587
              have b605 := hq_rng z588
              have b606 := hq_rng z589
              have b607 := hq_rng z590
              have b608 := hq_rng z591
              have b609 := hq_rng z593
              have hP := hP.trans hq584 (fun _ h => Bool.noConfusion h)
              have hf610 := hq_rgB hP.1 hyi2 ho597
              have hf611 := hq_rgB hP.1 hyi4 ho599
              have b612 := hq_rng r583
              refine lv_if_eq (tgt := 193) hx hb dX7_takeLine_178 (by decide) (fun c613 => ?_) (fun c613 => ?_)
              · have c613 : (r583).toInt = (0 : Int) := hq_eqi.mp c613
                have hF614 := hx_D.pos hp600 (by omega)
                have b615 := hF614.1
                have b616 := hF614.2.1
                refine lv_iconst (v := 0) hx hb dX7_takeLine_193 (by decide) ?_
                refine lv_istore_n (lv' := [(2, .int (0)), (1, .ref (it)), (0, .ref (kb + 2))]) hx hb dX7_takeLine_194 rfl hl (by decide) rfl (fun ls hl => ?_)
                refine lv_goto (tgt := 278) hx hb dX7_takeLine_195 (by decide) ?_
                refine lv_aload_n hx hb dX7_takeLine_278 rfl (lv_at hl 2 rfl) ?_
                refine hp_get (v := .ref (qb)) hx hb hts hown hZ ho595 fl_X7_30 rfl dX7_takeLine_279 ?_
                refine lv_dup hx hb dX7_takeLine_282 rfl ?_
                have fx617 : V580 (qb) = some (.inr (0, [.ref (qb + 1), .int (bc), .ref (qb + 14), .ref (qb + 75), .int (bv), .ref (qb + 76), .int (bl)])) := (fr585 (qb) (hq_tne hy5 hy2 (by simp)) (hq_tne hy5 hyi1 (by simp)) (hq_tne hy5 hyi2 (by simp)) (hq_tne hy5 hyi3 (by simp)) (hq_tne hy5 hyi4 (by simp))).trans ((fr39 (qb) (hq_tne hy5 hy2 (by simp))).trans ((fr28 (qb) (hq_tne hy5 hyi0 (by simp)) (hq_tne hy5 hyi1 (by simp)) (hq_tne hy5 hyi3 (by simp))).trans (hc3)))
                refine hp_get (v := .int (bl)) hx hb hts hown hZ fx617 fl_X7_94 rfl dX7_takeLine_283 ?_
                refine lv_iconst (v := 1) hx hb dX7_takeLine_286 (by decide) ?_
                refine lv_iadd hx hb dX7_takeLine_287 ?_
                refine lv_topi (fun y618 ey619 => ?_)
                obtain ⟨k620, hk621, b622, b623⟩ := hq_add (bl) (1)
                rw [← ey619] at hk621 b622 b623
                have hk621 : (y618).toInt = (bl).toInt + (1 : Int) + k620 * 4294967296 := hk621
                obtain rfl : k620 = 0 := by omega
                refine hp_put hx hb hts hown hZ fx617 fp_X7_94 rfl rfl (Nat.le_of_ble_eq_true rfl) dX7_takeLine_288 (fun V624 _ _ e625 o626 hZ => ?_)
                have e625 : V624 (qb) = some (.inr (0, [.ref (qb + 1), .int (bc), .ref (qb + 14), .ref (qb + 75), .int (bv), .ref (qb + 76), .int (y618)])) := e625
                have hP := hP.put hy5 e625 o626 (hq_c6 hy6 hy7 hy8 hy9 (show 0 ≤ (bc).toInt ∧ (bc).toInt ≤ 6 by omega) (show 0 ≤ (bv).toInt ∧ (bv).toInt ≤ 30 by omega) (show 0 ≤ (y618).toInt ∧ (y618).toInt ≤ 60 by omega)) rfl
                refine lv_iload_n hx hb dX7_takeLine_291 rfl (lv_at hl 0 rfl) ?_
                have hl627 : (0 : Int32).toInt = 0 := by decide
                have fx628 : V624 (kb + 2) = some (.inr (7, [.int (z586), .int (z587), .ref (kb), .ref (qb), .int (z588), .int (z589), .int (z590), .ref (kb + 3)])) := (o626 (kb + 2) (hq_tne hy2 hy5 (by simp))).trans (ho595)
                have fx629 : V624 (kb + 3) = some (.inr (9, [.ref (kb + 3 + 1), .int (nz)])) := (o626 (kb + 3) (hq_tne hy3 hy5 (by simp))).trans ((fr585 (kb + 3) (hq_tne hy3 hy2 (by simp)) (hq_tne hy3 hyi1 (by simp)) (hq_tne hy3 hyi2 (by simp)) (hq_tne hy3 hyi3 (by simp)) (hq_tne hy3 hyi4 (by simp))).trans ((fr39 (kb + 3) (hq_tne hy3 hy2 (by simp))).trans ((fr28 (kb + 3) (hq_tne hy3 hyi0 (by simp)) (hq_tne hy3 hyi1 (by simp)) (hq_tne hy3 hyi3 (by simp))).trans (hc1))))
                have fx630 : V624 (kb + 4) = some (.inl (cs 0, 12, .inl (nf))) := (o626 (kb + 4) (hq_tne hy4 hy5 (by simp))).trans ((fr585 (kb + 4) (hq_tne hy4 hy2 (by simp)) (hq_tne hy4 hyi1 (by simp)) (hq_tne hy4 hyi2 (by simp)) (hq_tne hy4 hyi3 (by simp)) (hq_tne hy4 hyi4 (by simp))).trans ((fr39 (kb + 4) (hq_tne hy4 hy2 (by simp))).trans ((fr28 (kb + 4) (hq_tne hy4 hyi0 (by simp)) (hq_tne hy4 hyi1 (by simp)) (hq_tne hy4 hyi3 (by simp))).trans (hc2))))
                have fx631 : V624 (it) = some (.inr (5, [.int (tk), .int (-1), .int (-1), .int (-1), .int (-1), .int (-1), .int (-1), .int (0), .ref (it + 1), .ref (it + 3)])) := (o626 (it) (hq_tne hyi0 hy5 (by simp))).trans ((fr585 (it) (hq_tne hyi0 hy2 (by simp)) (hq_tne hyi0 hyi1 (by simp)) (hq_tne hyi0 hyi2 (by simp)) (hq_tne hyi0 hyi3 (by simp)) (hq_tne hyi0 hyi4 (by simp))).trans (fx52))
                have fx632 : V624 (it + 1) = some (.inr (9, [.ref (it + 2), .int (z591)])) := (o626 (it + 1) (hq_tne hyi1 hy5 (by simp))).trans (ho596)
                have fx633 : V624 (it + 2) = some (.inl (cs 0, 8, .inl (u592))) := (o626 (it + 2) (hq_tne hyi2 hy5 (by simp))).trans (ho597)
                have fx634 : V624 (it + 3) = some (.inr (9, [.ref (it + 4), .int (z593)])) := (o626 (it + 3) (hq_tne hyi3 hy5 (by simp))).trans (ho598)
                have fx635 : V624 (it + 4) = some (.inl (cs 0, 8, .inl (u594))) := (o626 (it + 4) (hq_tne hyi4 hy5 (by simp))).trans (ho599)
                have hl636 : (-1 : Int32).toInt = -1 := by decide
                have hl637 : (-1 : Int32).toInt = -1 := by decide
                have hl638 : (-1 : Int32).toInt = -1 := by decide
                have hl639 : (-1 : Int32).toInt = -1 := by decide
                have hl640 : (-1 : Int32).toInt = -1 := by decide
                have hl641 : (-1 : Int32).toInt = -1 := by decide
                have hl642 : (0 : Int32).toInt = 0 := by decide
                have hls9 : hx_LS cs V624 it := ⟨⟨tk, -1, -1, -1, -1, -1, -1, 0, fx631, by omega⟩, ⟨_, _, fx632, fx633, by omega⟩, ⟨_, _, fx634, fx635, by omega⟩⟩
                exact hp_zret hx hb hr rfl hlocks hZ ⟨rfl, hP, (fun x8 hne0 hne1 hne2 hne3 hne4 hne5 hne6 hne7 hne8 => (o626 x8 hne3).trans ((fr585 x8 hne0 hne5 hne6 hne7 hne8).trans ((fr39 x8 hne0).trans (fr28 x8 hne4 hne5 hne7)))), z586, z587, z588, z589, z590, nz, nf, y618, fx628, fx629, fx630, e625, hx_D.l (by omega) (by unfold sp_tl sp_line; (try dsimp only); (repeat (first | (rw [if_pos]; rotate_left; omega) | (rw [if_neg]; rotate_left; omega))); (try dsimp only); exact hF614), by omega, hSK0.ln (i := lz.length) (fun x7 hx7 => (o626 x7 (by omega)).trans ((fr585 x7 (by omega) (by omega) (by omega) (by omega) (by omega)).trans ((fr39 x7 (by omega)).trans (fr28 x7 (by omega) (by omega) (by omega))))) (by rw [← hit]; exact hls9), by omega⟩ dX7_takeLine_292
              · have c613 : ¬ (r583).toInt = (0 : Int) := fun h9 => c613 (hq_eqi.mpr h9)
                obtain ⟨b643, ⟨b644, b645, hA646⟩, b647, b648, b649, b650⟩ := hx_D.neg hp600 (by omega)
                obtain ⟨b651, b652, b653, b654⟩ := id hA646
                refine lv_aload_n hx hb dX7_takeLine_181 rfl (lv_at hl 1 rfl) ?_
                refine lv_aload_n hx hb dX7_takeLine_182 rfl (lv_at hl 0 rfl) ?_
                have fx655 : V580 (it) = some (.inr (5, [.int (tk), .int (-1), .int (-1), .int (-1), .int (-1), .int (-1), .int (-1), .int (0), .ref (it + 1), .ref (it + 3)])) := (fr585 (it) (hq_tne hyi0 hy2 (by simp)) (hq_tne hyi0 hyi1 (by simp)) (hq_tne hyi0 hyi2 (by simp)) (hq_tne hyi0 hyi3 (by simp)) (hq_tne hyi0 hyi4 (by simp))).trans (fx52)
                have hl656 : (-1 : Int32).toInt = -1 := by decide
                have hl657 : (-1 : Int32).toInt = -1 := by decide
                have hl658 : (-1 : Int32).toInt = -1 := by decide
                have hl659 : (-1 : Int32).toInt = -1 := by decide
                have hl660 : (-1 : Int32).toInt = -1 := by decide
                have hl661 : (-1 : Int32).toInt = -1 := by decide
                have hl662 : (0 : Int32).toInt = 0 := by decide
                have pk663 := pk579.keep (fr585 (kb) (hq_tne hy0 hy2 (by simp)) (hq_tne hy0 hyi1 (by simp)) (hq_tne hy0 hyi2 (by simp)) (hq_tne hy0 hyi3 (by simp)) (hq_tne hy0 hyi4 (by simp))) (fr585 (kb + 1) (hq_tne hy1 hy2 (by simp)) (hq_tne hy1 hyi1 (by simp)) (hq_tne hy1 hyi2 (by simp)) (hq_tne hy1 hyi3 (by simp)) (hq_tne hy1 hyi4 (by simp)))
                refine hp_calli (hp_runV (As := [.ref (it)]) (rest := []) hx hb hml hown hts (x_takeLast l D cs B G V580 n hP.1 (kb) (qb) (w) (it) (bb) ((sp_chg w (j + 1)).2) (z586) (z587) (z588) (z589) (z590) (tk) (-1) (-1) (-1) (-1) (-1) (-1) (0) hy0 hy1 hy2 hyi0 hyi1 hyi2 hyi3 hyi4 ho595 fx655 pk663 hA646 hq (by omega) (by omega)) hZ ho595 cv_X7_126 rfl rfl ⟨Nat.le_of_ble_eq_true rfl, Nat.le_of_ble_eq_true rfl⟩ rfl hl.1 rfl (Nat.le_of_ble_eq_true rfl) dX7_takeLine_183 ⟨(Nat.le_of_ble_eq_true rfl), (Nat.le_of_ble_eq_true rfl)⟩) hZ (fun r667 V664 n665 _ _ hw666 hZ => ?_)
                obtain ⟨rfl, hq668, fr669, z670, z671, z672, z673, z674, z675, ho676, ho677, hp678, hp679⟩ := hw666
                have b680 := hq_rng z670
                have b681 := hq_rng z671
                have b682 := hq_rng z672
                have b683 := hq_rng z673
                have b684 := hq_rng z674
                have b685 := hq_rng z675
                have hP := hP.trans hq668 (fun _ h => Bool.noConfusion h)
                have b686 := hq_rng r667
                obtain ⟨⟨b688, b689, hA687⟩, b690⟩ := hp679
                obtain ⟨b691, b692, b693, b694⟩ := id hA687
                have hl695 : (0 : Int32).toInt = 0 := by decide
                refine lv_if_eq (tgt := 193) hx hb dX7_takeLine_186 (by decide) (fun c696 => absurd c696 ((fun h9 => absurd (congrArg Int32.toInt h9) (by omega) : ¬ r667 = 0))) (fun c696 => ?_)
                refine lv_iconst (v := 1) hx hb dX7_takeLine_189 (by decide) ?_
                refine lv_goto (tgt := 194) hx hb dX7_takeLine_190 (by decide) ?_
                refine lv_istore_n (lv' := [(2, .int (1)), (1, .ref (it)), (0, .ref (kb + 2))]) hx hb dX7_takeLine_194 rfl hl (by decide) rfl (fun ls hl => ?_)
                refine lv_goto (tgt := 278) hx hb dX7_takeLine_195 (by decide) ?_
                refine lv_aload_n hx hb dX7_takeLine_278 rfl (lv_at hl 2 rfl) ?_
                refine hp_get (v := .ref (qb)) hx hb hts hown hZ ho676 fl_X7_30 rfl dX7_takeLine_279 ?_
                refine lv_dup hx hb dX7_takeLine_282 rfl ?_
                have fx697 : V664 (qb) = some (.inr (0, [.ref (qb + 1), .int (bc), .ref (qb + 14), .ref (qb + 75), .int (bv), .ref (qb + 76), .int (bl)])) := (fr669 (qb) (hq_tne hy5 hy2 (by simp)) (hq_tne hy5 hyi0 (by simp))).trans ((fr585 (qb) (hq_tne hy5 hy2 (by simp)) (hq_tne hy5 hyi1 (by simp)) (hq_tne hy5 hyi2 (by simp)) (hq_tne hy5 hyi3 (by simp)) (hq_tne hy5 hyi4 (by simp))).trans ((fr39 (qb) (hq_tne hy5 hy2 (by simp))).trans ((fr28 (qb) (hq_tne hy5 hyi0 (by simp)) (hq_tne hy5 hyi1 (by simp)) (hq_tne hy5 hyi3 (by simp))).trans (hc3))))
                refine hp_get (v := .int (bl)) hx hb hts hown hZ fx697 fl_X7_94 rfl dX7_takeLine_283 ?_
                refine lv_iconst (v := 1) hx hb dX7_takeLine_286 (by decide) ?_
                refine lv_iadd hx hb dX7_takeLine_287 ?_
                refine lv_topi (fun y698 ey699 => ?_)
                obtain ⟨k700, hk701, b702, b703⟩ := hq_add (bl) (1)
                rw [← ey699] at hk701 b702 b703
                have hk701 : (y698).toInt = (bl).toInt + (1 : Int) + k700 * 4294967296 := hk701
                obtain rfl : k700 = 0 := by omega
                refine hp_put hx hb hts hown hZ fx697 fp_X7_94 rfl rfl (Nat.le_of_ble_eq_true rfl) dX7_takeLine_288 (fun V704 _ _ e705 o706 hZ => ?_)
                have e705 : V704 (qb) = some (.inr (0, [.ref (qb + 1), .int (bc), .ref (qb + 14), .ref (qb + 75), .int (bv), .ref (qb + 76), .int (y698)])) := e705
                have hP := hP.put hy5 e705 o706 (hq_c6 hy6 hy7 hy8 hy9 (show 0 ≤ (bc).toInt ∧ (bc).toInt ≤ 6 by omega) (show 0 ≤ (bv).toInt ∧ (bv).toInt ≤ 30 by omega) (show 0 ≤ (y698).toInt ∧ (y698).toInt ≤ 60 by omega)) rfl
                refine lv_iload_n hx hb dX7_takeLine_291 rfl (lv_at hl 0 rfl) ?_
                have hl707 : (1 : Int32).toInt = 1 := by decide
                have fx708 : V704 (kb + 2) = some (.inr (7, [.int (z670), .int (z671), .ref (kb), .ref (qb), .int (z672), .int (z673), .int (z674), .ref (kb + 3)])) := (o706 (kb + 2) (hq_tne hy2 hy5 (by simp))).trans (ho676)
                have fx709 : V704 (kb + 3) = some (.inr (9, [.ref (kb + 3 + 1), .int (nz)])) := (o706 (kb + 3) (hq_tne hy3 hy5 (by simp))).trans ((fr669 (kb + 3) (hq_tne hy3 hy2 (by simp)) (hq_tne hy3 hyi0 (by simp))).trans ((fr585 (kb + 3) (hq_tne hy3 hy2 (by simp)) (hq_tne hy3 hyi1 (by simp)) (hq_tne hy3 hyi2 (by simp)) (hq_tne hy3 hyi3 (by simp)) (hq_tne hy3 hyi4 (by simp))).trans ((fr39 (kb + 3) (hq_tne hy3 hy2 (by simp))).trans ((fr28 (kb + 3) (hq_tne hy3 hyi0 (by simp)) (hq_tne hy3 hyi1 (by simp)) (hq_tne hy3 hyi3 (by simp))).trans (hc1)))))
                have fx710 : V704 (kb + 4) = some (.inl (cs 0, 12, .inl (nf))) := (o706 (kb + 4) (hq_tne hy4 hy5 (by simp))).trans ((fr669 (kb + 4) (hq_tne hy4 hy2 (by simp)) (hq_tne hy4 hyi0 (by simp))).trans ((fr585 (kb + 4) (hq_tne hy4 hy2 (by simp)) (hq_tne hy4 hyi1 (by simp)) (hq_tne hy4 hyi2 (by simp)) (hq_tne hy4 hyi3 (by simp)) (hq_tne hy4 hyi4 (by simp))).trans ((fr39 (kb + 4) (hq_tne hy4 hy2 (by simp))).trans ((fr28 (kb + 4) (hq_tne hy4 hyi0 (by simp)) (hq_tne hy4 hyi1 (by simp)) (hq_tne hy4 hyi3 (by simp))).trans (hc2)))))
                have fx711 : V704 (it) = some (.inr (5, [.int (tk), .int (-1), .int (-1), .int (-1), .int (-1), .int (-1), .int (-1), .int (z675), .ref (it + 1), .ref (it + 3)])) := (o706 (it) (hq_tne hyi0 hy5 (by simp))).trans (ho677)
                have fx712 : V704 (it + 1) = some (.inr (9, [.ref (it + 2), .int (z591)])) := (o706 (it + 1) (hq_tne hyi1 hy5 (by simp))).trans ((fr669 (it + 1) (hq_tne hyi1 hy2 (by simp)) (hq_tne hyi1 hyi0 (by simp))).trans (ho596))
                have fx713 : V704 (it + 2) = some (.inl (cs 0, 8, .inl (u592))) := (o706 (it + 2) (hq_tne hyi2 hy5 (by simp))).trans ((fr669 (it + 2) (hq_tne hyi2 hy2 (by simp)) (hq_tne hyi2 hyi0 (by simp))).trans (ho597))
                have fx714 : V704 (it + 3) = some (.inr (9, [.ref (it + 4), .int (z593)])) := (o706 (it + 3) (hq_tne hyi3 hy5 (by simp))).trans ((fr669 (it + 3) (hq_tne hyi3 hy2 (by simp)) (hq_tne hyi3 hyi0 (by simp))).trans (ho598))
                have fx715 : V704 (it + 4) = some (.inl (cs 0, 8, .inl (u594))) := (o706 (it + 4) (hq_tne hyi4 hy5 (by simp))).trans ((fr669 (it + 4) (hq_tne hyi4 hy2 (by simp)) (hq_tne hyi4 hyi0 (by simp))).trans (ho599))
                have hl716 : (-1 : Int32).toInt = -1 := by decide
                have hl717 : (-1 : Int32).toInt = -1 := by decide
                have hl718 : (-1 : Int32).toInt = -1 := by decide
                have hl719 : (-1 : Int32).toInt = -1 := by decide
                have hl720 : (-1 : Int32).toInt = -1 := by decide
                have hl721 : (-1 : Int32).toInt = -1 := by decide
                have hls9 : hx_LS cs V704 it := ⟨⟨tk, -1, -1, -1, -1, -1, -1, z675, fx711, by omega⟩, ⟨_, _, fx712, fx713, by omega⟩, ⟨_, _, fx714, fx715, by omega⟩⟩
                exact hp_zret hx hb hr rfl hlocks hZ ⟨rfl, hP, (fun x8 hne0 hne1 hne2 hne3 hne4 hne5 hne6 hne7 hne8 => (o706 x8 hne3).trans ((fr669 x8 hne0 hne4).trans ((fr585 x8 hne0 hne5 hne6 hne7 hne8).trans ((fr39 x8 hne0).trans (fr28 x8 hne4 hne5 hne7))))), z670, z671, z672, z673, z674, nz, nf, y698, fx708, fx709, fx710, e705, hx_D.r (by omega) (by unfold sp_tl sp_line; (try dsimp only); (repeat (first | (rw [if_pos]; rotate_left; omega) | (rw [if_neg]; rotate_left; omega))); (try dsimp only); exact ⟨by first | rfl | omega, ⟨by omega, by omega, hA687⟩, by omega, ⟨tk, -1, -1, -1, -1, -1, -1, z675, fx711, by first | omega | (dsimp only; omega), by first | omega | (dsimp only; omega), by first | omega | (dsimp only; omega), by first | omega | (dsimp only; omega), fun h9 => by first | omega | (dsimp only at h9 ⊢; omega), fun h9 => by first | omega | (dsimp only at h9 ⊢; omega), ⟨_, _, fx712, fx713, by first | omega | (dsimp only; omega), by first | omega | (dsimp only; omega), b648⟩, ⟨_, _, fx714, fx715, by first | omega | (dsimp only; omega), by first | omega | (dsimp only; omega), b650⟩⟩, by omega⟩), by omega, hSK0.ln (i := lz.length) (fun x7 hx7 => (o706 x7 (by omega)).trans ((fr669 x7 (by omega) (by omega)).trans ((fr585 x7 (by omega) (by omega) (by omega) (by omega) (by omega)).trans ((fr39 x7 (by omega)).trans (fr28 x7 (by omega) (by omega) (by omega)))))) (by rw [← hit]; exact hls9), by omega⟩ dX7_takeLine_292
            ·
              rcases Classical.em (tk = 3) with h722 | h722
              · refine lv_tableIn (off := 127) (tgt := 198) hx hb dX7_takeLine_71 (by rw [h722]; decide) (by rw [h722]; decide) (by rw [h722]; decide) (by decide) ?_
                have b723 : (tk).toInt = 3 := by rw [h722]; decide
                refine lv_aload_n hx hb dX7_takeLine_198 rfl (lv_at hl 1 rfl) ?_
                refine lv_aload_n hx hb dX7_takeLine_199 rfl (lv_at hl 0 rfl) ?_
                have fx724 : V34 (kb + 3) = some (.inr (9, [.ref (kb + 3 + 1), .int (nz)])) := (fr39 (kb + 3) (hq_tne hy3 hy2 (by simp))).trans ((fr28 (kb + 3) (hq_tne hy3 hyi0 (by simp)) (hq_tne hy3 hyi1 (by simp)) (hq_tne hy3 hyi3 (by simp))).trans (hc1))
                have fx725 : V34 (kb + 4) = some (.inl (cs 0, 12, .inl (nf))) := (fr39 (kb + 4) (hq_tne hy4 hy2 (by simp))).trans ((fr28 (kb + 4) (hq_tne hy4 hyi0 (by simp)) (hq_tne hy4 hyi1 (by simp)) (hq_tne hy4 hyi3 (by simp))).trans (hc2))
                have fx726 : V34 (qb) = some (.inr (0, [.ref (qb + 1), .int (bc), .ref (qb + 14), .ref (qb + 75), .int (bv), .ref (qb + 76), .int (bl)])) := (fr39 (qb) (hq_tne hy5 hy2 (by simp))).trans ((fr28 (qb) (hq_tne hy5 hyi0 (by simp)) (hq_tne hy5 hyi1 (by simp)) (hq_tne hy5 hyi3 (by simp))).trans (hc3))
                have hl727 : (-1 : Int32).toInt = -1 := by decide
                have hl728 : (-1 : Int32).toInt = -1 := by decide
                have hl729 : (-1 : Int32).toInt = -1 := by decide
                have hl730 : (-1 : Int32).toInt = -1 := by decide
                have hl731 : (-1 : Int32).toInt = -1 := by decide
                have hl732 : (-1 : Int32).toInt = -1 := by decide
                have hl733 : (0 : Int32).toInt = 0 := by decide
                have pk734 := pk33.keep (fr39 (kb) (hq_tne hy0 hy2 (by simp))) (fr39 (kb + 1) (hq_tne hy1 hy2 (by simp)))
                have pk735 := hp1.keep ((fr39 (qb + 1) (hq_tne hy6 hy2 (by simp))).trans (fr28 (qb + 1) (hq_tne hy6 hyi0 (by simp)) (hq_tne hy6 hyi1 (by simp)) (hq_tne hy6 hyi3 (by simp)))) ((fr39 (qb + 14) (hq_tne hy7 hy2 (by simp))).trans (fr28 (qb + 14) (hq_tne hy7 hyi0 (by simp)) (hq_tne hy7 hyi1 (by simp)) (hq_tne hy7 hyi3 (by simp)))) ((fr39 (qb + 76) (hq_tne hy9 hy2 (by simp))).trans (fr28 (qb + 76) (hq_tne hy9 hyi0 (by simp)) (hq_tne hy9 hyi1 (by simp)) (hq_tne hy9 hyi3 (by simp))))
                have pk736 := hp2.keep (fun x7 (hx7 : qb + 2 ≤ x7 ∧ x7 < qb + 2 + 2 * cl.length) => (fr39 x7 (by omega)).trans (fr28 x7 (by omega) (by omega) (by omega)))
                refine hp_calli (hp_runV (As := [.ref (it)]) (rest := []) hx hb hml hown hts (x_takeWhere l D cs B G V34 n hP.1 (kb) (qb) (w) (it) (bb) (j + 1) (cl) (fk) (fp) (z40) (z41) (z42) (nz) (nf) (tk) (-1) (-1) (-1) (-1) (-1) (-1) (0) (bc) (bv) (bl) hy0 hy1 hy2 hy3 hy4 hyi0 hyi1 hyi2 hyi3 hyi4 ho43 fx724 fx725 fx52 fx726 pk734 pk735 pk736 hp44 hq (by omega) (by omega) (by omega) hbc) hZ ho43 cv_X7_109 rfl rfl ⟨Nat.le_of_ble_eq_true rfl, Nat.le_of_ble_eq_true rfl⟩ rfl hl.1 rfl (Nat.le_of_ble_eq_true rfl) dX7_takeLine_200 ⟨(Nat.le_of_ble_eq_true rfl), (Nat.le_of_ble_eq_true rfl)⟩) hZ (fun r740 V737 n738 _ _ hw739 hZ => ?_)
                obtain ⟨rfl, hq741, fr742, z743, z744, z745, z746, z747, z748, u749, z750, ho751, ho752, ho753, ho754, hp755, hp756, hp757⟩ := hw739
                have b758 := hq_rng z743
                have b759 := hq_rng z744
                have b760 := hq_rng z745
                have b761 := hq_rng z746
                have b762 := hq_rng z747
                have b763 := hq_rng z748
                have b764 := hq_rng z750
                have hP := hP.trans hq741 (fun _ h => Bool.noConfusion h)
                have hf765 := hq_rgB hP.1 hy4 ho753
                have b766 := hq_rng r740
                refine lv_if_eq (tgt := 218) hx hb dX7_takeLine_203 (by decide) (fun c767 => ?_) (fun c767 => ?_)
                · have c767 : (r740).toInt = (0 : Int) := hq_eqi.mp c767
                  have hF768 := hx_D.pos hp755 (by omega)
                  have b769 := hF768.1
                  have b770 := hF768.2.1
                  refine lv_iconst (v := 0) hx hb dX7_takeLine_218 (by decide) ?_
                  refine lv_istore_n (lv' := [(2, .int (0)), (1, .ref (it)), (0, .ref (kb + 2))]) hx hb dX7_takeLine_219 rfl hl (by decide) rfl (fun ls hl => ?_)
                  refine lv_goto (tgt := 278) hx hb dX7_takeLine_220 (by decide) ?_
                  refine lv_aload_n hx hb dX7_takeLine_278 rfl (lv_at hl 2 rfl) ?_
                  refine hp_get (v := .ref (qb)) hx hb hts hown hZ ho751 fl_X7_30 rfl dX7_takeLine_279 ?_
                  refine lv_dup hx hb dX7_takeLine_282 rfl ?_
                  have fx771 : V737 (qb) = some (.inr (0, [.ref (qb + 1), .int (bc), .ref (qb + 14), .ref (qb + 75), .int (bv), .ref (qb + 76), .int (bl)])) := (fr742 (qb) (hq_tne hy5 hy2 (by simp)) (hq_tne hy5 hy3 (by simp)) (hq_tne hy5 hy4 (by simp)) (hq_tne hy5 hyi0 (by simp))).trans (fx726)
                  refine hp_get (v := .int (bl)) hx hb hts hown hZ fx771 fl_X7_94 rfl dX7_takeLine_283 ?_
                  refine lv_iconst (v := 1) hx hb dX7_takeLine_286 (by decide) ?_
                  refine lv_iadd hx hb dX7_takeLine_287 ?_
                  refine lv_topi (fun y772 ey773 => ?_)
                  obtain ⟨k774, hk775, b776, b777⟩ := hq_add (bl) (1)
                  rw [← ey773] at hk775 b776 b777
                  have hk775 : (y772).toInt = (bl).toInt + (1 : Int) + k774 * 4294967296 := hk775
                  obtain rfl : k774 = 0 := by omega
                  refine hp_put hx hb hts hown hZ fx771 fp_X7_94 rfl rfl (Nat.le_of_ble_eq_true rfl) dX7_takeLine_288 (fun V778 _ _ e779 o780 hZ => ?_)
                  have e779 : V778 (qb) = some (.inr (0, [.ref (qb + 1), .int (bc), .ref (qb + 14), .ref (qb + 75), .int (bv), .ref (qb + 76), .int (y772)])) := e779
                  have hP := hP.put hy5 e779 o780 (hq_c6 hy6 hy7 hy8 hy9 (show 0 ≤ (bc).toInt ∧ (bc).toInt ≤ 6 by omega) (show 0 ≤ (bv).toInt ∧ (bv).toInt ≤ 30 by omega) (show 0 ≤ (y772).toInt ∧ (y772).toInt ≤ 60 by omega)) rfl
                  refine lv_iload_n hx hb dX7_takeLine_291 rfl (lv_at hl 0 rfl) ?_
                  have hl781 : (0 : Int32).toInt = 0 := by decide
                  have fx782 : V778 (kb + 2) = some (.inr (7, [.int (z743), .int (z744), .ref (kb), .ref (qb), .int (z745), .int (z746), .int (z747), .ref (kb + 3)])) := (o780 (kb + 2) (hq_tne hy2 hy5 (by simp))).trans (ho751)
                  have fx783 : V778 (kb + 3) = some (.inr (9, [.ref (kb + 4), .int (z748)])) := (o780 (kb + 3) (hq_tne hy3 hy5 (by simp))).trans (ho752)
                  have fx784 : V778 (kb + 4) = some (.inl (cs 0, 12, .inl (u749))) := (o780 (kb + 4) (hq_tne hy4 hy5 (by simp))).trans (ho753)
                  have fx785 : V778 (it) = some (.inr (5, [.int (tk), .int (z750), .int (-1), .int (-1), .int (-1), .int (-1), .int (-1), .int (0), .ref (it + 1), .ref (it + 3)])) := (o780 (it) (hq_tne hyi0 hy5 (by simp))).trans (ho754)
                  have fx786 : V778 (it + 1) = some (.inr (9, [.ref (it + 2), .int (0)])) := (o780 (it + 1) (hq_tne hyi1 hy5 (by simp))).trans ((fr742 (it + 1) (hq_tne hyi1 hy2 (by simp)) (hq_tne hyi1 hy3 (by simp)) (hq_tne hyi1 hy4 (by simp)) (hq_tne hyi1 hyi0 (by simp))).trans ((fr39 (it + 1) (hq_tne hyi1 hy2 (by simp))).trans (ho30)))
                  have fx787 : V778 (it + 2) = some (.inl (cs 0, 8, .inl (ff))) := (o780 (it + 2) (hq_tne hyi2 hy5 (by simp))).trans ((fr742 (it + 2) (hq_tne hyi2 hy2 (by simp)) (hq_tne hyi2 hy3 (by simp)) (hq_tne hyi2 hy4 (by simp)) (hq_tne hyi2 hyi0 (by simp))).trans ((fr39 (it + 2) (hq_tne hyi2 hy2 (by simp))).trans ((fr28 (it + 2) (hq_tne hyi2 hyi0 (by simp)) (hq_tne hyi2 hyi1 (by simp)) (hq_tne hyi2 hyi3 (by simp))).trans (hl2))))
                  have fx788 : V778 (it + 3) = some (.inr (9, [.ref (it + 4), .int (0)])) := (o780 (it + 3) (hq_tne hyi3 hy5 (by simp))).trans ((fr742 (it + 3) (hq_tne hyi3 hy2 (by simp)) (hq_tne hyi3 hy3 (by simp)) (hq_tne hyi3 hy4 (by simp)) (hq_tne hyi3 hyi0 (by simp))).trans ((fr39 (it + 3) (hq_tne hyi3 hy2 (by simp))).trans (ho31)))
                  have fx789 : V778 (it + 4) = some (.inl (cs 0, 8, .inl (sf))) := (o780 (it + 4) (hq_tne hyi4 hy5 (by simp))).trans ((fr742 (it + 4) (hq_tne hyi4 hy2 (by simp)) (hq_tne hyi4 hy3 (by simp)) (hq_tne hyi4 hy4 (by simp)) (hq_tne hyi4 hyi0 (by simp))).trans ((fr39 (it + 4) (hq_tne hyi4 hy2 (by simp))).trans ((fr28 (it + 4) (hq_tne hyi4 hyi0 (by simp)) (hq_tne hyi4 hyi1 (by simp)) (hq_tne hyi4 hyi3 (by simp))).trans (hl4))))
                  have hl790 : (-1 : Int32).toInt = -1 := by decide
                  have hl791 : (-1 : Int32).toInt = -1 := by decide
                  have hl792 : (-1 : Int32).toInt = -1 := by decide
                  have hl793 : (-1 : Int32).toInt = -1 := by decide
                  have hl794 : (-1 : Int32).toInt = -1 := by decide
                  have hl795 : (0 : Int32).toInt = 0 := by decide
                  have hl796 : (0 : Int32).toInt = 0 := by decide
                  have hl797 : (0 : Int32).toInt = 0 := by decide
                  have hls9 : hx_LS cs V778 it := ⟨⟨tk, z750, -1, -1, -1, -1, -1, 0, fx785, by omega⟩, ⟨_, _, fx786, fx787, by omega⟩, ⟨_, _, fx788, fx789, by omega⟩⟩
                  exact hp_zret hx hb hr rfl hlocks hZ ⟨rfl, hP, (fun x8 hne0 hne1 hne2 hne3 hne4 hne5 hne6 hne7 hne8 => (o780 x8 hne3).trans ((fr742 x8 hne0 hne1 hne2 hne4).trans ((fr39 x8 hne0).trans (fr28 x8 hne4 hne5 hne7)))), z743, z744, z745, z746, z747, z748, u749, y772, fx782, fx783, fx784, e779, hx_D.l (by omega) (by unfold sp_tl sp_line; (try dsimp only); (repeat (first | (rw [if_pos]; rotate_left; omega) | (rw [if_neg]; rotate_left; omega))); (try dsimp only); exact hF768), by omega, hSK0.ln (i := lz.length) (fun x7 hx7 => (o780 x7 (by omega)).trans ((fr742 x7 (by omega) (by omega) (by omega) (by omega)).trans ((fr39 x7 (by omega)).trans (fr28 x7 (by omega) (by omega) (by omega))))) (by rw [← hit]; exact hls9), by omega⟩ dX7_takeLine_292
                · have c767 : ¬ (r740).toInt = (0 : Int) := fun h9 => c767 (hq_eqi.mpr h9)
                  obtain ⟨b798, ⟨b799, b800, hA801⟩, b802⟩ := hx_D.neg hp755 (by omega)
                  obtain ⟨b803, b804, b805, b806⟩ := id hA801
                  refine lv_aload_n hx hb dX7_takeLine_206 rfl (lv_at hl 1 rfl) ?_
                  refine lv_aload_n hx hb dX7_takeLine_207 rfl (lv_at hl 0 rfl) ?_
                  have fx807 : V737 (qb) = some (.inr (0, [.ref (qb + 1), .int (bc), .ref (qb + 14), .ref (qb + 75), .int (bv), .ref (qb + 76), .int (bl)])) := (fr742 (qb) (hq_tne hy5 hy2 (by simp)) (hq_tne hy5 hy3 (by simp)) (hq_tne hy5 hy4 (by simp)) (hq_tne hy5 hyi0 (by simp))).trans (fx726)
                  have hl808 : (-1 : Int32).toInt = -1 := by decide
                  have hl809 : (-1 : Int32).toInt = -1 := by decide
                  have hl810 : (-1 : Int32).toInt = -1 := by decide
                  have hl811 : (-1 : Int32).toInt = -1 := by decide
                  have hl812 : (-1 : Int32).toInt = -1 := by decide
                  have hl813 : (0 : Int32).toInt = 0 := by decide
                  have pk814 := pk734.keep (fr742 (kb) (hq_tne hy0 hy2 (by simp)) (hq_tne hy0 hy3 (by simp)) (hq_tne hy0 hy4 (by simp)) (hq_tne hy0 hyi0 (by simp))) (fr742 (kb + 1) (hq_tne hy1 hy2 (by simp)) (hq_tne hy1 hy3 (by simp)) (hq_tne hy1 hy4 (by simp)) (hq_tne hy1 hyi0 (by simp)))
                  have pk815 := pk735.keep (fr742 (qb + 1) (hq_tne hy6 hy2 (by simp)) (hq_tne hy6 hy3 (by simp)) (hq_tne hy6 hy4 (by simp)) (hq_tne hy6 hyi0 (by simp))) (fr742 (qb + 14) (hq_tne hy7 hy2 (by simp)) (hq_tne hy7 hy3 (by simp)) (hq_tne hy7 hy4 (by simp)) (hq_tne hy7 hyi0 (by simp))) (fr742 (qb + 76) (hq_tne hy9 hy2 (by simp)) (hq_tne hy9 hy3 (by simp)) (hq_tne hy9 hy4 (by simp)) (hq_tne hy9 hyi0 (by simp)))
                  have pk816 := hp3.keep (fun x7 (hx7 : qb + 15 ≤ x7 ∧ x7 < qb + 15 + 2 * vn.length) => (fr742 x7 (by omega) (by omega) (by omega) (by omega)).trans ((fr39 x7 (by omega)).trans (fr28 x7 (by omega) (by omega) (by omega))))
                  refine hp_calli (hp_runV (As := [.ref (it)]) (rest := []) hx hb hml hown hts (x_takeCompound l D cs B G V737 n hP.1 (kb) (qb) (w) (it) (bb) ((sp_where w cl (j + 1)).2.1) (vn) (z743) (z744) (z745) (z746) (z747) (z748) (u749) (tk) (z750) (-1) (-1) (-1) (-1) (-1) (0) (bc) (bv) (bl) hy0 hy1 hy2 hy3 hy4 hyi0 hyi1 hyi2 hyi3 hyi4 ho751 ho752 ho753 ho754 fx807 pk814 pk815 pk816 hA801 hq (by omega) (by omega) hbv) hZ ho751 cv_X7_129 rfl rfl ⟨Nat.le_of_ble_eq_true rfl, Nat.le_of_ble_eq_true rfl⟩ rfl hl.1 rfl (Nat.le_of_ble_eq_true rfl) dX7_takeLine_208 ⟨(Nat.le_of_ble_eq_true rfl), (Nat.le_of_ble_eq_true rfl)⟩) hZ (fun r820 V817 n818 _ _ hw819 hZ => ?_)
                  obtain ⟨rfl, hq821, fr822, z823, z824, z825, z826, z827, z828, u829, z830, z831, z832, z833, ho834, ho835, ho836, ho837, hp838, hp839, hp840⟩ := hw819
                  have b841 := hq_rng z823
                  have b842 := hq_rng z824
                  have b843 := hq_rng z825
                  have b844 := hq_rng z826
                  have b845 := hq_rng z827
                  have b846 := hq_rng z828
                  have b847 := hq_rng z830
                  have b848 := hq_rng z831
                  have b849 := hq_rng z832
                  have b850 := hq_rng z833
                  have hP := hP.trans hq821 (fun _ h => Bool.noConfusion h)
                  have hf851 := hq_rgB hP.1 hy4 ho836
                  have b852 := hq_rng r820
                  refine lv_if_eq (tgt := 218) hx hb dX7_takeLine_211 (by decide) (fun c853 => ?_) (fun c853 => ?_)
                  · have c853 : (r820).toInt = (0 : Int) := hq_eqi.mp c853
                    have hF854 := hx_D.pos hp838 (by omega)
                    have b855 := hF854.1
                    have b856 := hF854.2.1
                    refine lv_iconst (v := 0) hx hb dX7_takeLine_218 (by decide) ?_
                    refine lv_istore_n (lv' := [(2, .int (0)), (1, .ref (it)), (0, .ref (kb + 2))]) hx hb dX7_takeLine_219 rfl hl (by decide) rfl (fun ls hl => ?_)
                    refine lv_goto (tgt := 278) hx hb dX7_takeLine_220 (by decide) ?_
                    refine lv_aload_n hx hb dX7_takeLine_278 rfl (lv_at hl 2 rfl) ?_
                    refine hp_get (v := .ref (qb)) hx hb hts hown hZ ho834 fl_X7_30 rfl dX7_takeLine_279 ?_
                    refine lv_dup hx hb dX7_takeLine_282 rfl ?_
                    have fx857 : V817 (qb) = some (.inr (0, [.ref (qb + 1), .int (bc), .ref (qb + 14), .ref (qb + 75), .int (bv), .ref (qb + 76), .int (bl)])) := (fr822 (qb) (hq_tne hy5 hy2 (by simp)) (hq_tne hy5 hy3 (by simp)) (hq_tne hy5 hy4 (by simp)) (hq_tne hy5 hyi0 (by simp))).trans (fx807)
                    refine hp_get (v := .int (bl)) hx hb hts hown hZ fx857 fl_X7_94 rfl dX7_takeLine_283 ?_
                    refine lv_iconst (v := 1) hx hb dX7_takeLine_286 (by decide) ?_
                    refine lv_iadd hx hb dX7_takeLine_287 ?_
                    refine lv_topi (fun y858 ey859 => ?_)
                    obtain ⟨k860, hk861, b862, b863⟩ := hq_add (bl) (1)
                    rw [← ey859] at hk861 b862 b863
                    have hk861 : (y858).toInt = (bl).toInt + (1 : Int) + k860 * 4294967296 := hk861
                    obtain rfl : k860 = 0 := by omega
                    refine hp_put hx hb hts hown hZ fx857 fp_X7_94 rfl rfl (Nat.le_of_ble_eq_true rfl) dX7_takeLine_288 (fun V864 _ _ e865 o866 hZ => ?_)
                    have e865 : V864 (qb) = some (.inr (0, [.ref (qb + 1), .int (bc), .ref (qb + 14), .ref (qb + 75), .int (bv), .ref (qb + 76), .int (y858)])) := e865
                    have hP := hP.put hy5 e865 o866 (hq_c6 hy6 hy7 hy8 hy9 (show 0 ≤ (bc).toInt ∧ (bc).toInt ≤ 6 by omega) (show 0 ≤ (bv).toInt ∧ (bv).toInt ≤ 30 by omega) (show 0 ≤ (y858).toInt ∧ (y858).toInt ≤ 60 by omega)) rfl
                    refine lv_iload_n hx hb dX7_takeLine_291 rfl (lv_at hl 0 rfl) ?_
                    have hl867 : (0 : Int32).toInt = 0 := by decide
                    have fx868 : V864 (kb + 2) = some (.inr (7, [.int (z823), .int (z824), .ref (kb), .ref (qb), .int (z825), .int (z826), .int (z827), .ref (kb + 3)])) := (o866 (kb + 2) (hq_tne hy2 hy5 (by simp))).trans (ho834)
                    have fx869 : V864 (kb + 3) = some (.inr (9, [.ref (kb + 4), .int (z828)])) := (o866 (kb + 3) (hq_tne hy3 hy5 (by simp))).trans (ho835)
                    have fx870 : V864 (kb + 4) = some (.inl (cs 0, 12, .inl (u829))) := (o866 (kb + 4) (hq_tne hy4 hy5 (by simp))).trans (ho836)
                    have fx871 : V864 (it) = some (.inr (5, [.int (tk), .int (z750), .int (z830), .int (-1), .int (z831), .int (z832), .int (z833), .int (0), .ref (it + 1), .ref (it + 3)])) := (o866 (it) (hq_tne hyi0 hy5 (by simp))).trans (ho837)
                    have fx872 : V864 (it + 1) = some (.inr (9, [.ref (it + 2), .int (0)])) := (o866 (it + 1) (hq_tne hyi1 hy5 (by simp))).trans ((fr822 (it + 1) (hq_tne hyi1 hy2 (by simp)) (hq_tne hyi1 hy3 (by simp)) (hq_tne hyi1 hy4 (by simp)) (hq_tne hyi1 hyi0 (by simp))).trans ((fr742 (it + 1) (hq_tne hyi1 hy2 (by simp)) (hq_tne hyi1 hy3 (by simp)) (hq_tne hyi1 hy4 (by simp)) (hq_tne hyi1 hyi0 (by simp))).trans ((fr39 (it + 1) (hq_tne hyi1 hy2 (by simp))).trans (ho30))))
                    have fx873 : V864 (it + 2) = some (.inl (cs 0, 8, .inl (ff))) := (o866 (it + 2) (hq_tne hyi2 hy5 (by simp))).trans ((fr822 (it + 2) (hq_tne hyi2 hy2 (by simp)) (hq_tne hyi2 hy3 (by simp)) (hq_tne hyi2 hy4 (by simp)) (hq_tne hyi2 hyi0 (by simp))).trans ((fr742 (it + 2) (hq_tne hyi2 hy2 (by simp)) (hq_tne hyi2 hy3 (by simp)) (hq_tne hyi2 hy4 (by simp)) (hq_tne hyi2 hyi0 (by simp))).trans ((fr39 (it + 2) (hq_tne hyi2 hy2 (by simp))).trans ((fr28 (it + 2) (hq_tne hyi2 hyi0 (by simp)) (hq_tne hyi2 hyi1 (by simp)) (hq_tne hyi2 hyi3 (by simp))).trans (hl2)))))
                    have fx874 : V864 (it + 3) = some (.inr (9, [.ref (it + 4), .int (0)])) := (o866 (it + 3) (hq_tne hyi3 hy5 (by simp))).trans ((fr822 (it + 3) (hq_tne hyi3 hy2 (by simp)) (hq_tne hyi3 hy3 (by simp)) (hq_tne hyi3 hy4 (by simp)) (hq_tne hyi3 hyi0 (by simp))).trans ((fr742 (it + 3) (hq_tne hyi3 hy2 (by simp)) (hq_tne hyi3 hy3 (by simp)) (hq_tne hyi3 hy4 (by simp)) (hq_tne hyi3 hyi0 (by simp))).trans ((fr39 (it + 3) (hq_tne hyi3 hy2 (by simp))).trans (ho31))))
                    have fx875 : V864 (it + 4) = some (.inl (cs 0, 8, .inl (sf))) := (o866 (it + 4) (hq_tne hyi4 hy5 (by simp))).trans ((fr822 (it + 4) (hq_tne hyi4 hy2 (by simp)) (hq_tne hyi4 hy3 (by simp)) (hq_tne hyi4 hy4 (by simp)) (hq_tne hyi4 hyi0 (by simp))).trans ((fr742 (it + 4) (hq_tne hyi4 hy2 (by simp)) (hq_tne hyi4 hy3 (by simp)) (hq_tne hyi4 hy4 (by simp)) (hq_tne hyi4 hyi0 (by simp))).trans ((fr39 (it + 4) (hq_tne hyi4 hy2 (by simp))).trans ((fr28 (it + 4) (hq_tne hyi4 hyi0 (by simp)) (hq_tne hyi4 hyi1 (by simp)) (hq_tne hyi4 hyi3 (by simp))).trans (hl4)))))
                    have hl876 : (-1 : Int32).toInt = -1 := by decide
                    have hl877 : (0 : Int32).toInt = 0 := by decide
                    have hl878 : (0 : Int32).toInt = 0 := by decide
                    have hl879 : (0 : Int32).toInt = 0 := by decide
                    have hls9 : hx_LS cs V864 it := ⟨⟨tk, z750, z830, -1, z831, z832, z833, 0, fx871, by omega⟩, ⟨_, _, fx872, fx873, by omega⟩, ⟨_, _, fx874, fx875, by omega⟩⟩
                    exact hp_zret hx hb hr rfl hlocks hZ ⟨rfl, hP, (fun x8 hne0 hne1 hne2 hne3 hne4 hne5 hne6 hne7 hne8 => (o866 x8 hne3).trans ((fr822 x8 hne0 hne1 hne2 hne4).trans ((fr742 x8 hne0 hne1 hne2 hne4).trans ((fr39 x8 hne0).trans (fr28 x8 hne4 hne5 hne7))))), z823, z824, z825, z826, z827, z828, u829, y858, fx868, fx869, fx870, e865, hx_D.l (by omega) (by unfold sp_tl sp_line; (try dsimp only); (repeat (first | (rw [if_pos]; rotate_left; omega) | (rw [if_neg]; rotate_left; omega))); (try dsimp only); exact hF854), by omega, hSK0.ln (i := lz.length) (fun x7 hx7 => (o866 x7 (by omega)).trans ((fr822 x7 (by omega) (by omega) (by omega) (by omega)).trans ((fr742 x7 (by omega) (by omega) (by omega) (by omega)).trans ((fr39 x7 (by omega)).trans (fr28 x7 (by omega) (by omega) (by omega)))))) (by rw [← hit]; exact hls9), by omega⟩ dX7_takeLine_292
                  · have c853 : ¬ (r820).toInt = (0 : Int) := fun h9 => c853 (hq_eqi.mpr h9)
                    obtain ⟨b880, ⟨b881, b882, hA883⟩, b884, b885⟩ := hx_D.neg hp838 (by omega)
                    obtain ⟨b886, b887, b888, b889⟩ := id hA883
                    refine lv_iconst (v := 1) hx hb dX7_takeLine_214 (by decide) ?_
                    refine lv_goto (tgt := 219) hx hb dX7_takeLine_215 (by decide) ?_
                    refine lv_istore_n (lv' := [(2, .int (1)), (1, .ref (it)), (0, .ref (kb + 2))]) hx hb dX7_takeLine_219 rfl hl (by decide) rfl (fun ls hl => ?_)
                    refine lv_goto (tgt := 278) hx hb dX7_takeLine_220 (by decide) ?_
                    refine lv_aload_n hx hb dX7_takeLine_278 rfl (lv_at hl 2 rfl) ?_
                    refine hp_get (v := .ref (qb)) hx hb hts hown hZ ho834 fl_X7_30 rfl dX7_takeLine_279 ?_
                    refine lv_dup hx hb dX7_takeLine_282 rfl ?_
                    have fx890 : V817 (qb) = some (.inr (0, [.ref (qb + 1), .int (bc), .ref (qb + 14), .ref (qb + 75), .int (bv), .ref (qb + 76), .int (bl)])) := (fr822 (qb) (hq_tne hy5 hy2 (by simp)) (hq_tne hy5 hy3 (by simp)) (hq_tne hy5 hy4 (by simp)) (hq_tne hy5 hyi0 (by simp))).trans (fx807)
                    refine hp_get (v := .int (bl)) hx hb hts hown hZ fx890 fl_X7_94 rfl dX7_takeLine_283 ?_
                    refine lv_iconst (v := 1) hx hb dX7_takeLine_286 (by decide) ?_
                    refine lv_iadd hx hb dX7_takeLine_287 ?_
                    refine lv_topi (fun y891 ey892 => ?_)
                    obtain ⟨k893, hk894, b895, b896⟩ := hq_add (bl) (1)
                    rw [← ey892] at hk894 b895 b896
                    have hk894 : (y891).toInt = (bl).toInt + (1 : Int) + k893 * 4294967296 := hk894
                    obtain rfl : k893 = 0 := by omega
                    refine hp_put hx hb hts hown hZ fx890 fp_X7_94 rfl rfl (Nat.le_of_ble_eq_true rfl) dX7_takeLine_288 (fun V897 _ _ e898 o899 hZ => ?_)
                    have e898 : V897 (qb) = some (.inr (0, [.ref (qb + 1), .int (bc), .ref (qb + 14), .ref (qb + 75), .int (bv), .ref (qb + 76), .int (y891)])) := e898
                    have hP := hP.put hy5 e898 o899 (hq_c6 hy6 hy7 hy8 hy9 (show 0 ≤ (bc).toInt ∧ (bc).toInt ≤ 6 by omega) (show 0 ≤ (bv).toInt ∧ (bv).toInt ≤ 30 by omega) (show 0 ≤ (y891).toInt ∧ (y891).toInt ≤ 60 by omega)) rfl
                    refine lv_iload_n hx hb dX7_takeLine_291 rfl (lv_at hl 0 rfl) ?_
                    have hl900 : (1 : Int32).toInt = 1 := by decide
                    have fx901 : V897 (kb + 2) = some (.inr (7, [.int (z823), .int (z824), .ref (kb), .ref (qb), .int (z825), .int (z826), .int (z827), .ref (kb + 3)])) := (o899 (kb + 2) (hq_tne hy2 hy5 (by simp))).trans (ho834)
                    have fx902 : V897 (kb + 3) = some (.inr (9, [.ref (kb + 4), .int (z828)])) := (o899 (kb + 3) (hq_tne hy3 hy5 (by simp))).trans (ho835)
                    have fx903 : V897 (kb + 4) = some (.inl (cs 0, 12, .inl (u829))) := (o899 (kb + 4) (hq_tne hy4 hy5 (by simp))).trans (ho836)
                    have fx904 : V897 (it) = some (.inr (5, [.int (tk), .int (z750), .int (z830), .int (-1), .int (z831), .int (z832), .int (z833), .int (0), .ref (it + 1), .ref (it + 3)])) := (o899 (it) (hq_tne hyi0 hy5 (by simp))).trans (ho837)
                    have fx905 : V897 (it + 1) = some (.inr (9, [.ref (it + 2), .int (0)])) := (o899 (it + 1) (hq_tne hyi1 hy5 (by simp))).trans ((fr822 (it + 1) (hq_tne hyi1 hy2 (by simp)) (hq_tne hyi1 hy3 (by simp)) (hq_tne hyi1 hy4 (by simp)) (hq_tne hyi1 hyi0 (by simp))).trans ((fr742 (it + 1) (hq_tne hyi1 hy2 (by simp)) (hq_tne hyi1 hy3 (by simp)) (hq_tne hyi1 hy4 (by simp)) (hq_tne hyi1 hyi0 (by simp))).trans ((fr39 (it + 1) (hq_tne hyi1 hy2 (by simp))).trans (ho30))))
                    have fx906 : V897 (it + 2) = some (.inl (cs 0, 8, .inl (ff))) := (o899 (it + 2) (hq_tne hyi2 hy5 (by simp))).trans ((fr822 (it + 2) (hq_tne hyi2 hy2 (by simp)) (hq_tne hyi2 hy3 (by simp)) (hq_tne hyi2 hy4 (by simp)) (hq_tne hyi2 hyi0 (by simp))).trans ((fr742 (it + 2) (hq_tne hyi2 hy2 (by simp)) (hq_tne hyi2 hy3 (by simp)) (hq_tne hyi2 hy4 (by simp)) (hq_tne hyi2 hyi0 (by simp))).trans ((fr39 (it + 2) (hq_tne hyi2 hy2 (by simp))).trans ((fr28 (it + 2) (hq_tne hyi2 hyi0 (by simp)) (hq_tne hyi2 hyi1 (by simp)) (hq_tne hyi2 hyi3 (by simp))).trans (hl2)))))
                    have fx907 : V897 (it + 3) = some (.inr (9, [.ref (it + 4), .int (0)])) := (o899 (it + 3) (hq_tne hyi3 hy5 (by simp))).trans ((fr822 (it + 3) (hq_tne hyi3 hy2 (by simp)) (hq_tne hyi3 hy3 (by simp)) (hq_tne hyi3 hy4 (by simp)) (hq_tne hyi3 hyi0 (by simp))).trans ((fr742 (it + 3) (hq_tne hyi3 hy2 (by simp)) (hq_tne hyi3 hy3 (by simp)) (hq_tne hyi3 hy4 (by simp)) (hq_tne hyi3 hyi0 (by simp))).trans ((fr39 (it + 3) (hq_tne hyi3 hy2 (by simp))).trans (ho31))))
                    have fx908 : V897 (it + 4) = some (.inl (cs 0, 8, .inl (sf))) := (o899 (it + 4) (hq_tne hyi4 hy5 (by simp))).trans ((fr822 (it + 4) (hq_tne hyi4 hy2 (by simp)) (hq_tne hyi4 hy3 (by simp)) (hq_tne hyi4 hy4 (by simp)) (hq_tne hyi4 hyi0 (by simp))).trans ((fr742 (it + 4) (hq_tne hyi4 hy2 (by simp)) (hq_tne hyi4 hy3 (by simp)) (hq_tne hyi4 hy4 (by simp)) (hq_tne hyi4 hyi0 (by simp))).trans ((fr39 (it + 4) (hq_tne hyi4 hy2 (by simp))).trans ((fr28 (it + 4) (hq_tne hyi4 hyi0 (by simp)) (hq_tne hyi4 hyi1 (by simp)) (hq_tne hyi4 hyi3 (by simp))).trans (hl4)))))
                    have hl909 : (-1 : Int32).toInt = -1 := by decide
                    have hl910 : (0 : Int32).toInt = 0 := by decide
                    have hl911 : (0 : Int32).toInt = 0 := by decide
                    have hl912 : (0 : Int32).toInt = 0 := by decide
                    have hls9 : hx_LS cs V897 it := ⟨⟨tk, z750, z830, -1, z831, z832, z833, 0, fx904, by omega⟩, ⟨_, _, fx905, fx906, by omega⟩, ⟨_, _, fx907, fx908, by omega⟩⟩
                    exact hp_zret hx hb hr rfl hlocks hZ ⟨rfl, hP, (fun x8 hne0 hne1 hne2 hne3 hne4 hne5 hne6 hne7 hne8 => (o899 x8 hne3).trans ((fr822 x8 hne0 hne1 hne2 hne4).trans ((fr742 x8 hne0 hne1 hne2 hne4).trans ((fr39 x8 hne0).trans (fr28 x8 hne4 hne5 hne7))))), z823, z824, z825, z826, z827, z828, u829, y891, fx901, fx902, fx903, e898, hx_D.r (by omega) (by unfold sp_tl sp_line; (try dsimp only); (repeat (first | (rw [if_pos]; rotate_left; omega) | (rw [if_neg]; rotate_left; omega))); (try dsimp only); exact ⟨by first | rfl | omega, ⟨by omega, by omega, hA883⟩, by omega, ⟨tk, z750, z830, -1, z831, z832, z833, 0, fx904, by first | omega | (dsimp only; omega), by first | omega | (dsimp only; omega), by first | omega | (dsimp only; omega), by first | omega | (dsimp only; omega), fun h9 => by first | omega | (dsimp only at h9 ⊢; omega), fun h9 => by first | omega | (dsimp only at h9 ⊢; omega), ⟨_, _, fx905, fx906, by first | omega | (dsimp only; omega), by first | omega | (dsimp only; omega), fun k9 hk9 => by first | omega | (dsimp only at hk9; omega)⟩, ⟨_, _, fx907, fx908, by first | omega | (dsimp only; omega), by first | omega | (dsimp only; omega), fun k9 hk9 => by first | omega | (dsimp only at hk9; omega)⟩⟩, by omega⟩), by omega, hSK0.ln (i := lz.length) (fun x7 hx7 => (o899 x7 (by omega)).trans ((fr822 x7 (by omega) (by omega) (by omega) (by omega)).trans ((fr742 x7 (by omega) (by omega) (by omega) (by omega)).trans ((fr39 x7 (by omega)).trans (fr28 x7 (by omega) (by omega) (by omega)))))) (by rw [← hit]; exact hls9), by omega⟩ dX7_takeLine_292
              ·
                rcases Classical.em (tk = 4) with h913 | h913
                · refine lv_tableIn (off := 152) (tgt := 223) hx hb dX7_takeLine_71 (by rw [h913]; decide) (by rw [h913]; decide) (by rw [h913]; decide) (by decide) ?_
                  have b914 : (tk).toInt = 4 := by rw [h913]; decide
                  refine lv_aload_n hx hb dX7_takeLine_223 rfl (lv_at hl 1 rfl) ?_
                  refine lv_aload_n hx hb dX7_takeLine_224 rfl (lv_at hl 0 rfl) ?_
                  have fx915 : V34 (kb + 3) = some (.inr (9, [.ref (kb + 3 + 1), .int (nz)])) := (fr39 (kb + 3) (hq_tne hy3 hy2 (by simp))).trans ((fr28 (kb + 3) (hq_tne hy3 hyi0 (by simp)) (hq_tne hy3 hyi1 (by simp)) (hq_tne hy3 hyi3 (by simp))).trans (hc1))
                  have fx916 : V34 (kb + 4) = some (.inl (cs 0, 12, .inl (nf))) := (fr39 (kb + 4) (hq_tne hy4 hy2 (by simp))).trans ((fr28 (kb + 4) (hq_tne hy4 hyi0 (by simp)) (hq_tne hy4 hyi1 (by simp)) (hq_tne hy4 hyi3 (by simp))).trans (hc2))
                  have fx917 : V34 (qb) = some (.inr (0, [.ref (qb + 1), .int (bc), .ref (qb + 14), .ref (qb + 75), .int (bv), .ref (qb + 76), .int (bl)])) := (fr39 (qb) (hq_tne hy5 hy2 (by simp))).trans ((fr28 (qb) (hq_tne hy5 hyi0 (by simp)) (hq_tne hy5 hyi1 (by simp)) (hq_tne hy5 hyi3 (by simp))).trans (hc3))
                  have hl918 : (-1 : Int32).toInt = -1 := by decide
                  have hl919 : (-1 : Int32).toInt = -1 := by decide
                  have hl920 : (-1 : Int32).toInt = -1 := by decide
                  have hl921 : (-1 : Int32).toInt = -1 := by decide
                  have hl922 : (-1 : Int32).toInt = -1 := by decide
                  have hl923 : (-1 : Int32).toInt = -1 := by decide
                  have hl924 : (0 : Int32).toInt = 0 := by decide
                  have pk925 := pk33.keep (fr39 (kb) (hq_tne hy0 hy2 (by simp))) (fr39 (kb + 1) (hq_tne hy1 hy2 (by simp)))
                  have pk926 := hp1.keep ((fr39 (qb + 1) (hq_tne hy6 hy2 (by simp))).trans (fr28 (qb + 1) (hq_tne hy6 hyi0 (by simp)) (hq_tne hy6 hyi1 (by simp)) (hq_tne hy6 hyi3 (by simp)))) ((fr39 (qb + 14) (hq_tne hy7 hy2 (by simp))).trans (fr28 (qb + 14) (hq_tne hy7 hyi0 (by simp)) (hq_tne hy7 hyi1 (by simp)) (hq_tne hy7 hyi3 (by simp)))) ((fr39 (qb + 76) (hq_tne hy9 hy2 (by simp))).trans (fr28 (qb + 76) (hq_tne hy9 hyi0 (by simp)) (hq_tne hy9 hyi1 (by simp)) (hq_tne hy9 hyi3 (by simp))))
                  have pk927 := hp3.keep (fun x7 (hx7 : qb + 15 ≤ x7 ∧ x7 < qb + 15 + 2 * vn.length) => (fr39 x7 (by omega)).trans (fr28 x7 (by omega) (by omega) (by omega)))
                  refine hp_calli (hp_runV (As := [.ref (it)]) (rest := []) hx hb hml hown hts (x_takeOwner l D cs B G V34 n hP.1 (kb) (qb) (w) (it) (bb) (j + 1) (vn) (fk) (fp) (z40) (z41) (z42) (nz) (nf) (tk) (-1) (-1) (-1) (-1) (-1) (-1) (0) (bc) (bv) (bl) hy0 hy1 hy2 hy3 hy4 hyi0 hyi1 hyi2 hyi3 hyi4 ho43 fx915 fx916 fx52 fx917 pk925 pk926 pk927 hp44 hq (by omega) (by omega) (by omega) hbv) hZ ho43 cv_X7_132 rfl rfl ⟨Nat.le_of_ble_eq_true rfl, Nat.le_of_ble_eq_true rfl⟩ rfl hl.1 rfl (Nat.le_of_ble_eq_true rfl) dX7_takeLine_225 ⟨(Nat.le_of_ble_eq_true rfl), (Nat.le_of_ble_eq_true rfl)⟩) hZ (fun r931 V928 n929 _ _ hw930 hZ => ?_)
                  obtain ⟨rfl, hq932, fr933, z934, z935, z936, z937, z938, z939, u940, z941, ho942, ho943, ho944, ho945, hp946, hp947, hp948⟩ := hw930
                  have b949 := hq_rng z934
                  have b950 := hq_rng z935
                  have b951 := hq_rng z936
                  have b952 := hq_rng z937
                  have b953 := hq_rng z938
                  have b954 := hq_rng z939
                  have b955 := hq_rng z941
                  have hP := hP.trans hq932 (fun _ h => Bool.noConfusion h)
                  have hf956 := hq_rgB hP.1 hy4 ho944
                  have b957 := hq_rng r931
                  refine lv_if_eq (tgt := 251) hx hb dX7_takeLine_228 (by decide) (fun c958 => ?_) (fun c958 => ?_)
                  · have c958 : (r931).toInt = (0 : Int) := hq_eqi.mp c958
                    have hF959 := hx_D.pos hp946 (by omega)
                    have b960 := hF959.1
                    have b961 := hF959.2.1
                    refine lv_iconst (v := 0) hx hb dX7_takeLine_251 (by decide) ?_
                    refine lv_istore_n (lv' := [(2, .int (0)), (1, .ref (it)), (0, .ref (kb + 2))]) hx hb dX7_takeLine_252 rfl hl (by decide) rfl (fun ls hl => ?_)
                    refine lv_goto (tgt := 278) hx hb dX7_takeLine_253 (by decide) ?_
                    refine lv_aload_n hx hb dX7_takeLine_278 rfl (lv_at hl 2 rfl) ?_
                    refine hp_get (v := .ref (qb)) hx hb hts hown hZ ho942 fl_X7_30 rfl dX7_takeLine_279 ?_
                    refine lv_dup hx hb dX7_takeLine_282 rfl ?_
                    have fx962 : V928 (qb) = some (.inr (0, [.ref (qb + 1), .int (bc), .ref (qb + 14), .ref (qb + 75), .int (bv), .ref (qb + 76), .int (bl)])) := (fr933 (qb) (hq_tne hy5 hy2 (by simp)) (hq_tne hy5 hy3 (by simp)) (hq_tne hy5 hy4 (by simp)) (hq_tne hy5 hyi0 (by simp))).trans (fx917)
                    refine hp_get (v := .int (bl)) hx hb hts hown hZ fx962 fl_X7_94 rfl dX7_takeLine_283 ?_
                    refine lv_iconst (v := 1) hx hb dX7_takeLine_286 (by decide) ?_
                    refine lv_iadd hx hb dX7_takeLine_287 ?_
                    refine lv_topi (fun y963 ey964 => ?_)
                    obtain ⟨k965, hk966, b967, b968⟩ := hq_add (bl) (1)
                    rw [← ey964] at hk966 b967 b968
                    have hk966 : (y963).toInt = (bl).toInt + (1 : Int) + k965 * 4294967296 := hk966
                    obtain rfl : k965 = 0 := by omega
                    refine hp_put hx hb hts hown hZ fx962 fp_X7_94 rfl rfl (Nat.le_of_ble_eq_true rfl) dX7_takeLine_288 (fun V969 _ _ e970 o971 hZ => ?_)
                    have e970 : V969 (qb) = some (.inr (0, [.ref (qb + 1), .int (bc), .ref (qb + 14), .ref (qb + 75), .int (bv), .ref (qb + 76), .int (y963)])) := e970
                    have hP := hP.put hy5 e970 o971 (hq_c6 hy6 hy7 hy8 hy9 (show 0 ≤ (bc).toInt ∧ (bc).toInt ≤ 6 by omega) (show 0 ≤ (bv).toInt ∧ (bv).toInt ≤ 30 by omega) (show 0 ≤ (y963).toInt ∧ (y963).toInt ≤ 60 by omega)) rfl
                    refine lv_iload_n hx hb dX7_takeLine_291 rfl (lv_at hl 0 rfl) ?_
                    have hl972 : (0 : Int32).toInt = 0 := by decide
                    have fx973 : V969 (kb + 2) = some (.inr (7, [.int (z934), .int (z935), .ref (kb), .ref (qb), .int (z936), .int (z937), .int (z938), .ref (kb + 3)])) := (o971 (kb + 2) (hq_tne hy2 hy5 (by simp))).trans (ho942)
                    have fx974 : V969 (kb + 3) = some (.inr (9, [.ref (kb + 4), .int (z939)])) := (o971 (kb + 3) (hq_tne hy3 hy5 (by simp))).trans (ho943)
                    have fx975 : V969 (kb + 4) = some (.inl (cs 0, 12, .inl (u940))) := (o971 (kb + 4) (hq_tne hy4 hy5 (by simp))).trans (ho944)
                    have fx976 : V969 (it) = some (.inr (5, [.int (tk), .int (z941), .int (-1), .int (-1), .int (-1), .int (-1), .int (-1), .int (0), .ref (it + 1), .ref (it + 3)])) := (o971 (it) (hq_tne hyi0 hy5 (by simp))).trans (ho945)
                    have fx977 : V969 (it + 1) = some (.inr (9, [.ref (it + 2), .int (0)])) := (o971 (it + 1) (hq_tne hyi1 hy5 (by simp))).trans ((fr933 (it + 1) (hq_tne hyi1 hy2 (by simp)) (hq_tne hyi1 hy3 (by simp)) (hq_tne hyi1 hy4 (by simp)) (hq_tne hyi1 hyi0 (by simp))).trans ((fr39 (it + 1) (hq_tne hyi1 hy2 (by simp))).trans (ho30)))
                    have fx978 : V969 (it + 2) = some (.inl (cs 0, 8, .inl (ff))) := (o971 (it + 2) (hq_tne hyi2 hy5 (by simp))).trans ((fr933 (it + 2) (hq_tne hyi2 hy2 (by simp)) (hq_tne hyi2 hy3 (by simp)) (hq_tne hyi2 hy4 (by simp)) (hq_tne hyi2 hyi0 (by simp))).trans ((fr39 (it + 2) (hq_tne hyi2 hy2 (by simp))).trans ((fr28 (it + 2) (hq_tne hyi2 hyi0 (by simp)) (hq_tne hyi2 hyi1 (by simp)) (hq_tne hyi2 hyi3 (by simp))).trans (hl2))))
                    have fx979 : V969 (it + 3) = some (.inr (9, [.ref (it + 4), .int (0)])) := (o971 (it + 3) (hq_tne hyi3 hy5 (by simp))).trans ((fr933 (it + 3) (hq_tne hyi3 hy2 (by simp)) (hq_tne hyi3 hy3 (by simp)) (hq_tne hyi3 hy4 (by simp)) (hq_tne hyi3 hyi0 (by simp))).trans ((fr39 (it + 3) (hq_tne hyi3 hy2 (by simp))).trans (ho31)))
                    have fx980 : V969 (it + 4) = some (.inl (cs 0, 8, .inl (sf))) := (o971 (it + 4) (hq_tne hyi4 hy5 (by simp))).trans ((fr933 (it + 4) (hq_tne hyi4 hy2 (by simp)) (hq_tne hyi4 hy3 (by simp)) (hq_tne hyi4 hy4 (by simp)) (hq_tne hyi4 hyi0 (by simp))).trans ((fr39 (it + 4) (hq_tne hyi4 hy2 (by simp))).trans ((fr28 (it + 4) (hq_tne hyi4 hyi0 (by simp)) (hq_tne hyi4 hyi1 (by simp)) (hq_tne hyi4 hyi3 (by simp))).trans (hl4))))
                    have hl981 : (-1 : Int32).toInt = -1 := by decide
                    have hl982 : (-1 : Int32).toInt = -1 := by decide
                    have hl983 : (-1 : Int32).toInt = -1 := by decide
                    have hl984 : (-1 : Int32).toInt = -1 := by decide
                    have hl985 : (-1 : Int32).toInt = -1 := by decide
                    have hl986 : (0 : Int32).toInt = 0 := by decide
                    have hl987 : (0 : Int32).toInt = 0 := by decide
                    have hl988 : (0 : Int32).toInt = 0 := by decide
                    have hls9 : hx_LS cs V969 it := ⟨⟨tk, z941, -1, -1, -1, -1, -1, 0, fx976, by omega⟩, ⟨_, _, fx977, fx978, by omega⟩, ⟨_, _, fx979, fx980, by omega⟩⟩
                    exact hp_zret hx hb hr rfl hlocks hZ ⟨rfl, hP, (fun x8 hne0 hne1 hne2 hne3 hne4 hne5 hne6 hne7 hne8 => (o971 x8 hne3).trans ((fr933 x8 hne0 hne1 hne2 hne4).trans ((fr39 x8 hne0).trans (fr28 x8 hne4 hne5 hne7)))), z934, z935, z936, z937, z938, z939, u940, y963, fx973, fx974, fx975, e970, hx_D.l (by omega) (by unfold sp_tl sp_line; (try dsimp only); (repeat (first | (rw [if_pos]; rotate_left; omega) | (rw [if_neg]; rotate_left; omega))); (try dsimp only); exact hF959), by omega, hSK0.ln (i := lz.length) (fun x7 hx7 => (o971 x7 (by omega)).trans ((fr933 x7 (by omega) (by omega) (by omega) (by omega)).trans ((fr39 x7 (by omega)).trans (fr28 x7 (by omega) (by omega) (by omega))))) (by rw [← hit]; exact hls9), by omega⟩ dX7_takeLine_292
                  · have c958 : ¬ (r931).toInt = (0 : Int) := fun h9 => c958 (hq_eqi.mpr h9)
                    obtain ⟨b989, ⟨b990, b991, hA992⟩, b993⟩ := hx_D.neg hp946 (by omega)
                    obtain ⟨b994, b995, b996, b997⟩ := id hA992
                    refine lv_aload_n hx hb dX7_takeLine_231 rfl (lv_at hl 1 rfl) ?_
                    refine lv_aload_n hx hb dX7_takeLine_232 rfl (lv_at hl 0 rfl) ?_
                    have hl998 : (-1 : Int32).toInt = -1 := by decide
                    have hl999 : (-1 : Int32).toInt = -1 := by decide
                    have hl1000 : (-1 : Int32).toInt = -1 := by decide
                    have hl1001 : (-1 : Int32).toInt = -1 := by decide
                    have hl1002 : (-1 : Int32).toInt = -1 := by decide
                    have hl1003 : (0 : Int32).toInt = 0 := by decide
                    have pk1004 := pk925.keep (fr933 (kb) (hq_tne hy0 hy2 (by simp)) (hq_tne hy0 hy3 (by simp)) (hq_tne hy0 hy4 (by simp)) (hq_tne hy0 hyi0 (by simp))) (fr933 (kb + 1) (hq_tne hy1 hy2 (by simp)) (hq_tne hy1 hy3 (by simp)) (hq_tne hy1 hy4 (by simp)) (hq_tne hy1 hyi0 (by simp)))
                    refine hp_calli (hp_runV (As := [.ref (it)]) (rest := []) hx hb hml hown hts (x_takeSlot l D cs B G V928 n hP.1 (kb) (qb) (w) (it) (bb) ((sp_old w vn (j + 1)).2.1) (z934) (z935) (z936) (z937) (z938) (tk) (z941) (-1) (-1) (-1) (-1) (-1) (0) hy0 hy1 hy2 hyi0 hyi1 hyi2 hyi3 hyi4 ho942 ho945 pk1004 hA992 hq (by omega) (by omega) (by omega)) hZ ho942 cv_X7_113 rfl rfl ⟨Nat.le_of_ble_eq_true rfl, Nat.le_of_ble_eq_true rfl⟩ rfl hl.1 rfl (Nat.le_of_ble_eq_true rfl) dX7_takeLine_233 ⟨(Nat.le_of_ble_eq_true rfl), (Nat.le_of_ble_eq_true rfl)⟩) hZ (fun r1008 V1005 n1006 _ _ hw1007 hZ => ?_)
                    obtain ⟨rfl, hq1009, fr1010, z1011, z1012, z1013, z1014, z1015, z1016, z1017, ho1018, ho1019, hp1020, hp1021⟩ := hw1007
                    have b1022 := hq_rng z1011
                    have b1023 := hq_rng z1012
                    have b1024 := hq_rng z1013
                    have b1025 := hq_rng z1014
                    have b1026 := hq_rng z1015
                    have b1027 := hq_rng z1016
                    have b1028 := hq_rng z1017
                    have hP := hP.trans hq1009 (fun _ h => Bool.noConfusion h)
                    have b1029 := hq_rng r1008
                    refine lv_if_eq (tgt := 251) hx hb dX7_takeLine_236 (by decide) (fun c1030 => ?_) (fun c1030 => ?_)
                    · have c1030 : (r1008).toInt = (0 : Int) := hq_eqi.mp c1030
                      have hF1031 := hx_D.pos hp1020 (by omega)
                      have b1032 := hF1031.1
                      have b1033 := hF1031.2.1
                      refine lv_iconst (v := 0) hx hb dX7_takeLine_251 (by decide) ?_
                      refine lv_istore_n (lv' := [(2, .int (0)), (1, .ref (it)), (0, .ref (kb + 2))]) hx hb dX7_takeLine_252 rfl hl (by decide) rfl (fun ls hl => ?_)
                      refine lv_goto (tgt := 278) hx hb dX7_takeLine_253 (by decide) ?_
                      refine lv_aload_n hx hb dX7_takeLine_278 rfl (lv_at hl 2 rfl) ?_
                      refine hp_get (v := .ref (qb)) hx hb hts hown hZ ho1018 fl_X7_30 rfl dX7_takeLine_279 ?_
                      refine lv_dup hx hb dX7_takeLine_282 rfl ?_
                      have fx1034 : V1005 (qb) = some (.inr (0, [.ref (qb + 1), .int (bc), .ref (qb + 14), .ref (qb + 75), .int (bv), .ref (qb + 76), .int (bl)])) := (fr1010 (qb) (hq_tne hy5 hy2 (by simp)) (hq_tne hy5 hyi0 (by simp))).trans ((fr933 (qb) (hq_tne hy5 hy2 (by simp)) (hq_tne hy5 hy3 (by simp)) (hq_tne hy5 hy4 (by simp)) (hq_tne hy5 hyi0 (by simp))).trans (fx917))
                      refine hp_get (v := .int (bl)) hx hb hts hown hZ fx1034 fl_X7_94 rfl dX7_takeLine_283 ?_
                      refine lv_iconst (v := 1) hx hb dX7_takeLine_286 (by decide) ?_
                      refine lv_iadd hx hb dX7_takeLine_287 ?_
                      refine lv_topi (fun y1035 ey1036 => ?_)
                      obtain ⟨k1037, hk1038, b1039, b1040⟩ := hq_add (bl) (1)
                      rw [← ey1036] at hk1038 b1039 b1040
                      have hk1038 : (y1035).toInt = (bl).toInt + (1 : Int) + k1037 * 4294967296 := hk1038
                      obtain rfl : k1037 = 0 := by omega
                      refine hp_put hx hb hts hown hZ fx1034 fp_X7_94 rfl rfl (Nat.le_of_ble_eq_true rfl) dX7_takeLine_288 (fun V1041 _ _ e1042 o1043 hZ => ?_)
                      have e1042 : V1041 (qb) = some (.inr (0, [.ref (qb + 1), .int (bc), .ref (qb + 14), .ref (qb + 75), .int (bv), .ref (qb + 76), .int (y1035)])) := e1042
                      have hP := hP.put hy5 e1042 o1043 (hq_c6 hy6 hy7 hy8 hy9 (show 0 ≤ (bc).toInt ∧ (bc).toInt ≤ 6 by omega) (show 0 ≤ (bv).toInt ∧ (bv).toInt ≤ 30 by omega) (show 0 ≤ (y1035).toInt ∧ (y1035).toInt ≤ 60 by omega)) rfl
                      refine lv_iload_n hx hb dX7_takeLine_291 rfl (lv_at hl 0 rfl) ?_
                      have hl1044 : (0 : Int32).toInt = 0 := by decide
                      have fx1045 : V1041 (kb + 2) = some (.inr (7, [.int (z1011), .int (z1012), .ref (kb), .ref (qb), .int (z1013), .int (z1014), .int (z1015), .ref (kb + 3)])) := (o1043 (kb + 2) (hq_tne hy2 hy5 (by simp))).trans (ho1018)
                      have fx1046 : V1041 (kb + 3) = some (.inr (9, [.ref (kb + 4), .int (z939)])) := (o1043 (kb + 3) (hq_tne hy3 hy5 (by simp))).trans ((fr1010 (kb + 3) (hq_tne hy3 hy2 (by simp)) (hq_tne hy3 hyi0 (by simp))).trans (ho943))
                      have fx1047 : V1041 (kb + 4) = some (.inl (cs 0, 12, .inl (u940))) := (o1043 (kb + 4) (hq_tne hy4 hy5 (by simp))).trans ((fr1010 (kb + 4) (hq_tne hy4 hy2 (by simp)) (hq_tne hy4 hyi0 (by simp))).trans (ho944))
                      have fx1048 : V1041 (it) = some (.inr (5, [.int (tk), .int (z941), .int (z1016), .int (z1017), .int (-1), .int (-1), .int (-1), .int (0), .ref (it + 1), .ref (it + 3)])) := (o1043 (it) (hq_tne hyi0 hy5 (by simp))).trans (ho1019)
                      have fx1049 : V1041 (it + 1) = some (.inr (9, [.ref (it + 2), .int (0)])) := (o1043 (it + 1) (hq_tne hyi1 hy5 (by simp))).trans ((fr1010 (it + 1) (hq_tne hyi1 hy2 (by simp)) (hq_tne hyi1 hyi0 (by simp))).trans ((fr933 (it + 1) (hq_tne hyi1 hy2 (by simp)) (hq_tne hyi1 hy3 (by simp)) (hq_tne hyi1 hy4 (by simp)) (hq_tne hyi1 hyi0 (by simp))).trans ((fr39 (it + 1) (hq_tne hyi1 hy2 (by simp))).trans (ho30))))
                      have fx1050 : V1041 (it + 2) = some (.inl (cs 0, 8, .inl (ff))) := (o1043 (it + 2) (hq_tne hyi2 hy5 (by simp))).trans ((fr1010 (it + 2) (hq_tne hyi2 hy2 (by simp)) (hq_tne hyi2 hyi0 (by simp))).trans ((fr933 (it + 2) (hq_tne hyi2 hy2 (by simp)) (hq_tne hyi2 hy3 (by simp)) (hq_tne hyi2 hy4 (by simp)) (hq_tne hyi2 hyi0 (by simp))).trans ((fr39 (it + 2) (hq_tne hyi2 hy2 (by simp))).trans ((fr28 (it + 2) (hq_tne hyi2 hyi0 (by simp)) (hq_tne hyi2 hyi1 (by simp)) (hq_tne hyi2 hyi3 (by simp))).trans (hl2)))))
                      have fx1051 : V1041 (it + 3) = some (.inr (9, [.ref (it + 4), .int (0)])) := (o1043 (it + 3) (hq_tne hyi3 hy5 (by simp))).trans ((fr1010 (it + 3) (hq_tne hyi3 hy2 (by simp)) (hq_tne hyi3 hyi0 (by simp))).trans ((fr933 (it + 3) (hq_tne hyi3 hy2 (by simp)) (hq_tne hyi3 hy3 (by simp)) (hq_tne hyi3 hy4 (by simp)) (hq_tne hyi3 hyi0 (by simp))).trans ((fr39 (it + 3) (hq_tne hyi3 hy2 (by simp))).trans (ho31))))
                      have fx1052 : V1041 (it + 4) = some (.inl (cs 0, 8, .inl (sf))) := (o1043 (it + 4) (hq_tne hyi4 hy5 (by simp))).trans ((fr1010 (it + 4) (hq_tne hyi4 hy2 (by simp)) (hq_tne hyi4 hyi0 (by simp))).trans ((fr933 (it + 4) (hq_tne hyi4 hy2 (by simp)) (hq_tne hyi4 hy3 (by simp)) (hq_tne hyi4 hy4 (by simp)) (hq_tne hyi4 hyi0 (by simp))).trans ((fr39 (it + 4) (hq_tne hyi4 hy2 (by simp))).trans ((fr28 (it + 4) (hq_tne hyi4 hyi0 (by simp)) (hq_tne hyi4 hyi1 (by simp)) (hq_tne hyi4 hyi3 (by simp))).trans (hl4)))))
                      have hl1053 : (-1 : Int32).toInt = -1 := by decide
                      have hl1054 : (-1 : Int32).toInt = -1 := by decide
                      have hl1055 : (-1 : Int32).toInt = -1 := by decide
                      have hl1056 : (0 : Int32).toInt = 0 := by decide
                      have hl1057 : (0 : Int32).toInt = 0 := by decide
                      have hl1058 : (0 : Int32).toInt = 0 := by decide
                      have hls9 : hx_LS cs V1041 it := ⟨⟨tk, z941, z1016, z1017, -1, -1, -1, 0, fx1048, by omega⟩, ⟨_, _, fx1049, fx1050, by omega⟩, ⟨_, _, fx1051, fx1052, by omega⟩⟩
                      exact hp_zret hx hb hr rfl hlocks hZ ⟨rfl, hP, (fun x8 hne0 hne1 hne2 hne3 hne4 hne5 hne6 hne7 hne8 => (o1043 x8 hne3).trans ((fr1010 x8 hne0 hne4).trans ((fr933 x8 hne0 hne1 hne2 hne4).trans ((fr39 x8 hne0).trans (fr28 x8 hne4 hne5 hne7))))), z1011, z1012, z1013, z1014, z1015, z939, u940, y1035, fx1045, fx1046, fx1047, e1042, hx_D.l (by omega) (by unfold sp_tl sp_line; (try dsimp only); (repeat (first | (rw [if_pos]; rotate_left; omega) | (rw [if_neg]; rotate_left; omega))); (try dsimp only); exact hF1031), by omega, hSK0.ln (i := lz.length) (fun x7 hx7 => (o1043 x7 (by omega)).trans ((fr1010 x7 (by omega) (by omega)).trans ((fr933 x7 (by omega) (by omega) (by omega) (by omega)).trans ((fr39 x7 (by omega)).trans (fr28 x7 (by omega) (by omega) (by omega)))))) (by rw [← hit]; exact hls9), by omega⟩ dX7_takeLine_292
                    · have c1030 : ¬ (r1008).toInt = (0 : Int) := fun h9 => c1030 (hq_eqi.mpr h9)
                      obtain ⟨b1059, ⟨b1060, b1061, hA1062⟩, b1063, b1064⟩ := hx_D.neg hp1020 (by omega)
                      obtain ⟨b1065, b1066, b1067, b1068⟩ := id hA1062
                      refine lv_aload_n hx hb dX7_takeLine_239 rfl (lv_at hl 1 rfl) ?_
                      refine lv_aload_n hx hb dX7_takeLine_240 rfl (lv_at hl 0 rfl) ?_
                      have fx1069 : V1005 (it + 1) = some (.inr (9, [.ref (it + 2), .int (0)])) := (fr1010 (it + 1) (hq_tne hyi1 hy2 (by simp)) (hq_tne hyi1 hyi0 (by simp))).trans ((fr933 (it + 1) (hq_tne hyi1 hy2 (by simp)) (hq_tne hyi1 hy3 (by simp)) (hq_tne hyi1 hy4 (by simp)) (hq_tne hyi1 hyi0 (by simp))).trans ((fr39 (it + 1) (hq_tne hyi1 hy2 (by simp))).trans (ho30)))
                      have fx1070 : V1005 (it + 2) = some (.inl (cs 0, 8, .inl (ff))) := (fr1010 (it + 2) (hq_tne hyi2 hy2 (by simp)) (hq_tne hyi2 hyi0 (by simp))).trans ((fr933 (it + 2) (hq_tne hyi2 hy2 (by simp)) (hq_tne hyi2 hy3 (by simp)) (hq_tne hyi2 hy4 (by simp)) (hq_tne hyi2 hyi0 (by simp))).trans ((fr39 (it + 2) (hq_tne hyi2 hy2 (by simp))).trans ((fr28 (it + 2) (hq_tne hyi2 hyi0 (by simp)) (hq_tne hyi2 hyi1 (by simp)) (hq_tne hyi2 hyi3 (by simp))).trans (hl2))))
                      have fx1071 : V1005 (qb) = some (.inr (0, [.ref (qb + 1), .int (bc), .ref (qb + 14), .ref (qb + 75), .int (bv), .ref (qb + 76), .int (bl)])) := (fr1010 (qb) (hq_tne hy5 hy2 (by simp)) (hq_tne hy5 hyi0 (by simp))).trans ((fr933 (qb) (hq_tne hy5 hy2 (by simp)) (hq_tne hy5 hy3 (by simp)) (hq_tne hy5 hy4 (by simp)) (hq_tne hy5 hyi0 (by simp))).trans (fx917))
                      have hl1072 : (-1 : Int32).toInt = -1 := by decide
                      have hl1073 : (-1 : Int32).toInt = -1 := by decide
                      have hl1074 : (-1 : Int32).toInt = -1 := by decide
                      have hl1075 : (0 : Int32).toInt = 0 := by decide
                      have hl1076 : (0 : Int32).toInt = 0 := by decide
                      have pk1077 := pk1004.keep (fr1010 (kb) (hq_tne hy0 hy2 (by simp)) (hq_tne hy0 hyi0 (by simp))) (fr1010 (kb + 1) (hq_tne hy1 hy2 (by simp)) (hq_tne hy1 hyi0 (by simp)))
                      have pk1078 := pk926.keep ((fr1010 (qb + 1) (hq_tne hy6 hy2 (by simp)) (hq_tne hy6 hyi0 (by simp))).trans (fr933 (qb + 1) (hq_tne hy6 hy2 (by simp)) (hq_tne hy6 hy3 (by simp)) (hq_tne hy6 hy4 (by simp)) (hq_tne hy6 hyi0 (by simp)))) ((fr1010 (qb + 14) (hq_tne hy7 hy2 (by simp)) (hq_tne hy7 hyi0 (by simp))).trans (fr933 (qb + 14) (hq_tne hy7 hy2 (by simp)) (hq_tne hy7 hy3 (by simp)) (hq_tne hy7 hy4 (by simp)) (hq_tne hy7 hyi0 (by simp)))) ((fr1010 (qb + 76) (hq_tne hy9 hy2 (by simp)) (hq_tne hy9 hyi0 (by simp))).trans (fr933 (qb + 76) (hq_tne hy9 hy2 (by simp)) (hq_tne hy9 hy3 (by simp)) (hq_tne hy9 hy4 (by simp)) (hq_tne hy9 hyi0 (by simp))))
                      have pk1079 := hp4.keep (fun x7 (hx7 : qb + 77 ≤ x7 ∧ x7 < qb + 77 + 5 * lz.length) => (fr1010 x7 (by omega) (by omega)).trans ((fr933 x7 (by omega) (by omega) (by omega) (by omega)).trans ((fr39 x7 (by omega)).trans (fr28 x7 (by omega) (by omega) (by omega)))))
                      refine hp_calli (hp_runV (As := [.ref (it)]) (rest := []) hx hb hml hown hts (x_takeExcepted l D cs B G V1005 n hP.1 (kb) (qb) (w) (it) (bb) ((sp_slot w ((sp_old w vn (j + 1)).2.1)).2.1) (lz) (z1011) (z1012) (z1013) (z1014) (z1015) (tk) (z941) (z1016) (z1017) (-1) (-1) (-1) (0) (0) (ff) (bc) (bv) (bl) hy0 hy1 hy2 hyi0 hyi1 hyi2 hyi3 hyi4 ho1018 ho1019 fx1069 fx1070 fx1071 pk1077 pk1078 pk1079 hA1062 hq (by omega) hbl (by omega)) hZ ho1018 cv_X7_135 rfl rfl ⟨Nat.le_of_ble_eq_true rfl, Nat.le_of_ble_eq_true rfl⟩ rfl hl.1 rfl (Nat.le_of_ble_eq_true rfl) dX7_takeLine_241 ⟨(Nat.le_of_ble_eq_true rfl), (Nat.le_of_ble_eq_true rfl)⟩) hZ (fun r1083 V1080 n1081 _ _ hw1082 hZ => ?_)
                      obtain ⟨rfl, hq1084, fr1085, z1086, z1087, z1088, z1089, z1090, z1091, u1092, ho1093, ho1094, ho1095, hp1096, hp1097, hp1098⟩ := hw1082
                      have b1099 := hq_rng z1086
                      have b1100 := hq_rng z1087
                      have b1101 := hq_rng z1088
                      have b1102 := hq_rng z1089
                      have b1103 := hq_rng z1090
                      have b1104 := hq_rng z1091
                      have hP := hP.trans hq1084 (fun _ h => Bool.noConfusion h)
                      have hf1105 := hq_rgB hP.1 hyi2 ho1095
                      have b1106 := hq_rng r1083
                      rw [show (z941 : Int32).toInt = (sp_old w vn (j + 1)).2.2 by omega, show (z1016 : Int32).toInt = (sp_slot w (sp_old w vn (j + 1)).2.1).2.2.1 by omega, show (z1017 : Int32).toInt = (sp_slot w (sp_old w vn (j + 1)).2.1).2.2.2 by omega] at hp1096
                      refine lv_if_eq (tgt := 251) hx hb dX7_takeLine_244 (by decide) (fun c1107 => ?_) (fun c1107 => ?_)
                      · have c1107 : (r1083).toInt = (0 : Int) := hq_eqi.mp c1107
                        have hF1108 := hx_D.pos hp1096 (by omega)
                        have b1109 := hF1108.1
                        have b1110 := hF1108.2.1
                        refine lv_iconst (v := 0) hx hb dX7_takeLine_251 (by decide) ?_
                        refine lv_istore_n (lv' := [(2, .int (0)), (1, .ref (it)), (0, .ref (kb + 2))]) hx hb dX7_takeLine_252 rfl hl (by decide) rfl (fun ls hl => ?_)
                        refine lv_goto (tgt := 278) hx hb dX7_takeLine_253 (by decide) ?_
                        refine lv_aload_n hx hb dX7_takeLine_278 rfl (lv_at hl 2 rfl) ?_
                        refine hp_get (v := .ref (qb)) hx hb hts hown hZ ho1093 fl_X7_30 rfl dX7_takeLine_279 ?_
                        refine lv_dup hx hb dX7_takeLine_282 rfl ?_
                        have fx1111 : V1080 (qb) = some (.inr (0, [.ref (qb + 1), .int (bc), .ref (qb + 14), .ref (qb + 75), .int (bv), .ref (qb + 76), .int (bl)])) := (fr1085 (qb) (hq_tne hy5 hy2 (by simp)) (hq_tne hy5 hyi1 (by simp)) (hq_tne hy5 hyi2 (by simp))).trans (fx1071)
                        refine hp_get (v := .int (bl)) hx hb hts hown hZ fx1111 fl_X7_94 rfl dX7_takeLine_283 ?_
                        refine lv_iconst (v := 1) hx hb dX7_takeLine_286 (by decide) ?_
                        refine lv_iadd hx hb dX7_takeLine_287 ?_
                        refine lv_topi (fun y1112 ey1113 => ?_)
                        obtain ⟨k1114, hk1115, b1116, b1117⟩ := hq_add (bl) (1)
                        rw [← ey1113] at hk1115 b1116 b1117
                        have hk1115 : (y1112).toInt = (bl).toInt + (1 : Int) + k1114 * 4294967296 := hk1115
                        obtain rfl : k1114 = 0 := by omega
                        refine hp_put hx hb hts hown hZ fx1111 fp_X7_94 rfl rfl (Nat.le_of_ble_eq_true rfl) dX7_takeLine_288 (fun V1118 _ _ e1119 o1120 hZ => ?_)
                        have e1119 : V1118 (qb) = some (.inr (0, [.ref (qb + 1), .int (bc), .ref (qb + 14), .ref (qb + 75), .int (bv), .ref (qb + 76), .int (y1112)])) := e1119
                        have hP := hP.put hy5 e1119 o1120 (hq_c6 hy6 hy7 hy8 hy9 (show 0 ≤ (bc).toInt ∧ (bc).toInt ≤ 6 by omega) (show 0 ≤ (bv).toInt ∧ (bv).toInt ≤ 30 by omega) (show 0 ≤ (y1112).toInt ∧ (y1112).toInt ≤ 60 by omega)) rfl
                        refine lv_iload_n hx hb dX7_takeLine_291 rfl (lv_at hl 0 rfl) ?_
                        have hl1121 : (0 : Int32).toInt = 0 := by decide
                        have fx1122 : V1118 (kb + 2) = some (.inr (7, [.int (z1086), .int (z1087), .ref (kb), .ref (qb), .int (z1088), .int (z1089), .int (z1090), .ref (kb + 3)])) := (o1120 (kb + 2) (hq_tne hy2 hy5 (by simp))).trans (ho1093)
                        have fx1123 : V1118 (kb + 3) = some (.inr (9, [.ref (kb + 4), .int (z939)])) := (o1120 (kb + 3) (hq_tne hy3 hy5 (by simp))).trans ((fr1085 (kb + 3) (hq_tne hy3 hy2 (by simp)) (hq_tne hy3 hyi1 (by simp)) (hq_tne hy3 hyi2 (by simp))).trans ((fr1010 (kb + 3) (hq_tne hy3 hy2 (by simp)) (hq_tne hy3 hyi0 (by simp))).trans (ho943)))
                        have fx1124 : V1118 (kb + 4) = some (.inl (cs 0, 12, .inl (u940))) := (o1120 (kb + 4) (hq_tne hy4 hy5 (by simp))).trans ((fr1085 (kb + 4) (hq_tne hy4 hy2 (by simp)) (hq_tne hy4 hyi1 (by simp)) (hq_tne hy4 hyi2 (by simp))).trans ((fr1010 (kb + 4) (hq_tne hy4 hy2 (by simp)) (hq_tne hy4 hyi0 (by simp))).trans (ho944)))
                        have fx1125 : V1118 (it) = some (.inr (5, [.int (tk), .int (z941), .int (z1016), .int (z1017), .int (-1), .int (-1), .int (-1), .int (0), .ref (it + 1), .ref (it + 3)])) := (o1120 (it) (hq_tne hyi0 hy5 (by simp))).trans ((fr1085 (it) (hq_tne hyi0 hy2 (by simp)) (hq_tne hyi0 hyi1 (by simp)) (hq_tne hyi0 hyi2 (by simp))).trans (ho1019))
                        have fx1126 : V1118 (it + 1) = some (.inr (9, [.ref (it + 2), .int (z1091)])) := (o1120 (it + 1) (hq_tne hyi1 hy5 (by simp))).trans (ho1094)
                        have fx1127 : V1118 (it + 2) = some (.inl (cs 0, 8, .inl (u1092))) := (o1120 (it + 2) (hq_tne hyi2 hy5 (by simp))).trans (ho1095)
                        have fx1128 : V1118 (it + 3) = some (.inr (9, [.ref (it + 4), .int (0)])) := (o1120 (it + 3) (hq_tne hyi3 hy5 (by simp))).trans ((fr1085 (it + 3) (hq_tne hyi3 hy2 (by simp)) (hq_ne it 3 1 (by decide)) (hq_tne hyi3 hyi2 (by simp))).trans ((fr1010 (it + 3) (hq_tne hyi3 hy2 (by simp)) (hq_tne hyi3 hyi0 (by simp))).trans ((fr933 (it + 3) (hq_tne hyi3 hy2 (by simp)) (hq_tne hyi3 hy3 (by simp)) (hq_tne hyi3 hy4 (by simp)) (hq_tne hyi3 hyi0 (by simp))).trans ((fr39 (it + 3) (hq_tne hyi3 hy2 (by simp))).trans (ho31)))))
                        have fx1129 : V1118 (it + 4) = some (.inl (cs 0, 8, .inl (sf))) := (o1120 (it + 4) (hq_tne hyi4 hy5 (by simp))).trans ((fr1085 (it + 4) (hq_tne hyi4 hy2 (by simp)) (hq_tne hyi4 hyi1 (by simp)) (hq_ne it 4 2 (by decide))).trans ((fr1010 (it + 4) (hq_tne hyi4 hy2 (by simp)) (hq_tne hyi4 hyi0 (by simp))).trans ((fr933 (it + 4) (hq_tne hyi4 hy2 (by simp)) (hq_tne hyi4 hy3 (by simp)) (hq_tne hyi4 hy4 (by simp)) (hq_tne hyi4 hyi0 (by simp))).trans ((fr39 (it + 4) (hq_tne hyi4 hy2 (by simp))).trans ((fr28 (it + 4) (hq_tne hyi4 hyi0 (by simp)) (hq_tne hyi4 hyi1 (by simp)) (hq_tne hyi4 hyi3 (by simp))).trans (hl4))))))
                        have hl1130 : (-1 : Int32).toInt = -1 := by decide
                        have hl1131 : (-1 : Int32).toInt = -1 := by decide
                        have hl1132 : (-1 : Int32).toInt = -1 := by decide
                        have hl1133 : (0 : Int32).toInt = 0 := by decide
                        have hl1134 : (0 : Int32).toInt = 0 := by decide
                        have hls9 : hx_LS cs V1118 it := ⟨⟨tk, z941, z1016, z1017, -1, -1, -1, 0, fx1125, by omega⟩, ⟨_, _, fx1126, fx1127, by omega⟩, ⟨_, _, fx1128, fx1129, by omega⟩⟩
                        exact hp_zret hx hb hr rfl hlocks hZ ⟨rfl, hP, (fun x8 hne0 hne1 hne2 hne3 hne4 hne5 hne6 hne7 hne8 => (o1120 x8 hne3).trans ((fr1085 x8 hne0 hne5 hne6).trans ((fr1010 x8 hne0 hne4).trans ((fr933 x8 hne0 hne1 hne2 hne4).trans ((fr39 x8 hne0).trans (fr28 x8 hne4 hne5 hne7)))))), z1086, z1087, z1088, z1089, z1090, z939, u940, y1112, fx1122, fx1123, fx1124, e1119, hx_D.l (by omega) (by unfold sp_tl sp_line; (try dsimp only); (repeat (first | (rw [if_pos]; rotate_left; omega) | (rw [if_neg]; rotate_left; omega))); (try dsimp only); exact hF1108), by omega, hSK0.ln (i := lz.length) (fun x7 hx7 => (o1120 x7 (by omega)).trans ((fr1085 x7 (by omega) (by omega) (by omega)).trans ((fr1010 x7 (by omega) (by omega)).trans ((fr933 x7 (by omega) (by omega) (by omega) (by omega)).trans ((fr39 x7 (by omega)).trans (fr28 x7 (by omega) (by omega) (by omega))))))) (by rw [← hit]; exact hls9), by omega⟩ dX7_takeLine_292
                      · have c1107 : ¬ (r1083).toInt = (0 : Int) := fun h9 => c1107 (hq_eqi.mpr h9)
                        obtain ⟨b1135, ⟨b1136, b1137, hA1138⟩, b1139, b1140⟩ := hx_D.neg hp1096 (by omega)
                        obtain ⟨b1141, b1142, b1143, b1144⟩ := id hA1138
                        refine lv_iconst (v := 1) hx hb dX7_takeLine_247 (by decide) ?_
                        refine lv_goto (tgt := 252) hx hb dX7_takeLine_248 (by decide) ?_
                        refine lv_istore_n (lv' := [(2, .int (1)), (1, .ref (it)), (0, .ref (kb + 2))]) hx hb dX7_takeLine_252 rfl hl (by decide) rfl (fun ls hl => ?_)
                        refine lv_goto (tgt := 278) hx hb dX7_takeLine_253 (by decide) ?_
                        refine lv_aload_n hx hb dX7_takeLine_278 rfl (lv_at hl 2 rfl) ?_
                        refine hp_get (v := .ref (qb)) hx hb hts hown hZ ho1093 fl_X7_30 rfl dX7_takeLine_279 ?_
                        refine lv_dup hx hb dX7_takeLine_282 rfl ?_
                        have fx1145 : V1080 (qb) = some (.inr (0, [.ref (qb + 1), .int (bc), .ref (qb + 14), .ref (qb + 75), .int (bv), .ref (qb + 76), .int (bl)])) := (fr1085 (qb) (hq_tne hy5 hy2 (by simp)) (hq_tne hy5 hyi1 (by simp)) (hq_tne hy5 hyi2 (by simp))).trans (fx1071)
                        refine hp_get (v := .int (bl)) hx hb hts hown hZ fx1145 fl_X7_94 rfl dX7_takeLine_283 ?_
                        refine lv_iconst (v := 1) hx hb dX7_takeLine_286 (by decide) ?_
                        refine lv_iadd hx hb dX7_takeLine_287 ?_
                        refine lv_topi (fun y1146 ey1147 => ?_)
                        obtain ⟨k1148, hk1149, b1150, b1151⟩ := hq_add (bl) (1)
                        rw [← ey1147] at hk1149 b1150 b1151
                        have hk1149 : (y1146).toInt = (bl).toInt + (1 : Int) + k1148 * 4294967296 := hk1149
                        obtain rfl : k1148 = 0 := by omega
                        refine hp_put hx hb hts hown hZ fx1145 fp_X7_94 rfl rfl (Nat.le_of_ble_eq_true rfl) dX7_takeLine_288 (fun V1152 _ _ e1153 o1154 hZ => ?_)
                        have e1153 : V1152 (qb) = some (.inr (0, [.ref (qb + 1), .int (bc), .ref (qb + 14), .ref (qb + 75), .int (bv), .ref (qb + 76), .int (y1146)])) := e1153
                        have hP := hP.put hy5 e1153 o1154 (hq_c6 hy6 hy7 hy8 hy9 (show 0 ≤ (bc).toInt ∧ (bc).toInt ≤ 6 by omega) (show 0 ≤ (bv).toInt ∧ (bv).toInt ≤ 30 by omega) (show 0 ≤ (y1146).toInt ∧ (y1146).toInt ≤ 60 by omega)) rfl
                        refine lv_iload_n hx hb dX7_takeLine_291 rfl (lv_at hl 0 rfl) ?_
                        have hl1155 : (1 : Int32).toInt = 1 := by decide
                        have fx1156 : V1152 (kb + 2) = some (.inr (7, [.int (z1086), .int (z1087), .ref (kb), .ref (qb), .int (z1088), .int (z1089), .int (z1090), .ref (kb + 3)])) := (o1154 (kb + 2) (hq_tne hy2 hy5 (by simp))).trans (ho1093)
                        have fx1157 : V1152 (kb + 3) = some (.inr (9, [.ref (kb + 4), .int (z939)])) := (o1154 (kb + 3) (hq_tne hy3 hy5 (by simp))).trans ((fr1085 (kb + 3) (hq_tne hy3 hy2 (by simp)) (hq_tne hy3 hyi1 (by simp)) (hq_tne hy3 hyi2 (by simp))).trans ((fr1010 (kb + 3) (hq_tne hy3 hy2 (by simp)) (hq_tne hy3 hyi0 (by simp))).trans (ho943)))
                        have fx1158 : V1152 (kb + 4) = some (.inl (cs 0, 12, .inl (u940))) := (o1154 (kb + 4) (hq_tne hy4 hy5 (by simp))).trans ((fr1085 (kb + 4) (hq_tne hy4 hy2 (by simp)) (hq_tne hy4 hyi1 (by simp)) (hq_tne hy4 hyi2 (by simp))).trans ((fr1010 (kb + 4) (hq_tne hy4 hy2 (by simp)) (hq_tne hy4 hyi0 (by simp))).trans (ho944)))
                        have fx1159 : V1152 (it) = some (.inr (5, [.int (tk), .int (z941), .int (z1016), .int (z1017), .int (-1), .int (-1), .int (-1), .int (0), .ref (it + 1), .ref (it + 3)])) := (o1154 (it) (hq_tne hyi0 hy5 (by simp))).trans ((fr1085 (it) (hq_tne hyi0 hy2 (by simp)) (hq_tne hyi0 hyi1 (by simp)) (hq_tne hyi0 hyi2 (by simp))).trans (ho1019))
                        have fx1160 : V1152 (it + 1) = some (.inr (9, [.ref (it + 2), .int (z1091)])) := (o1154 (it + 1) (hq_tne hyi1 hy5 (by simp))).trans (ho1094)
                        have fx1161 : V1152 (it + 2) = some (.inl (cs 0, 8, .inl (u1092))) := (o1154 (it + 2) (hq_tne hyi2 hy5 (by simp))).trans (ho1095)
                        have fx1162 : V1152 (it + 3) = some (.inr (9, [.ref (it + 4), .int (0)])) := (o1154 (it + 3) (hq_tne hyi3 hy5 (by simp))).trans ((fr1085 (it + 3) (hq_tne hyi3 hy2 (by simp)) (hq_ne it 3 1 (by decide)) (hq_tne hyi3 hyi2 (by simp))).trans ((fr1010 (it + 3) (hq_tne hyi3 hy2 (by simp)) (hq_tne hyi3 hyi0 (by simp))).trans ((fr933 (it + 3) (hq_tne hyi3 hy2 (by simp)) (hq_tne hyi3 hy3 (by simp)) (hq_tne hyi3 hy4 (by simp)) (hq_tne hyi3 hyi0 (by simp))).trans ((fr39 (it + 3) (hq_tne hyi3 hy2 (by simp))).trans (ho31)))))
                        have fx1163 : V1152 (it + 4) = some (.inl (cs 0, 8, .inl (sf))) := (o1154 (it + 4) (hq_tne hyi4 hy5 (by simp))).trans ((fr1085 (it + 4) (hq_tne hyi4 hy2 (by simp)) (hq_tne hyi4 hyi1 (by simp)) (hq_ne it 4 2 (by decide))).trans ((fr1010 (it + 4) (hq_tne hyi4 hy2 (by simp)) (hq_tne hyi4 hyi0 (by simp))).trans ((fr933 (it + 4) (hq_tne hyi4 hy2 (by simp)) (hq_tne hyi4 hy3 (by simp)) (hq_tne hyi4 hy4 (by simp)) (hq_tne hyi4 hyi0 (by simp))).trans ((fr39 (it + 4) (hq_tne hyi4 hy2 (by simp))).trans ((fr28 (it + 4) (hq_tne hyi4 hyi0 (by simp)) (hq_tne hyi4 hyi1 (by simp)) (hq_tne hyi4 hyi3 (by simp))).trans (hl4))))))
                        have hl1164 : (-1 : Int32).toInt = -1 := by decide
                        have hl1165 : (-1 : Int32).toInt = -1 := by decide
                        have hl1166 : (-1 : Int32).toInt = -1 := by decide
                        have hl1167 : (0 : Int32).toInt = 0 := by decide
                        have hl1168 : (0 : Int32).toInt = 0 := by decide
                        have hls9 : hx_LS cs V1152 it := ⟨⟨tk, z941, z1016, z1017, -1, -1, -1, 0, fx1159, by omega⟩, ⟨_, _, fx1160, fx1161, by omega⟩, ⟨_, _, fx1162, fx1163, by omega⟩⟩
                        exact hp_zret hx hb hr rfl hlocks hZ ⟨rfl, hP, (fun x8 hne0 hne1 hne2 hne3 hne4 hne5 hne6 hne7 hne8 => (o1154 x8 hne3).trans ((fr1085 x8 hne0 hne5 hne6).trans ((fr1010 x8 hne0 hne4).trans ((fr933 x8 hne0 hne1 hne2 hne4).trans ((fr39 x8 hne0).trans (fr28 x8 hne4 hne5 hne7)))))), z1086, z1087, z1088, z1089, z1090, z939, u940, y1146, fx1156, fx1157, fx1158, e1153, hx_D.r (by omega) (by unfold sp_tl sp_line; (try dsimp only); (repeat (first | (rw [if_pos]; rotate_left; omega) | (rw [if_neg]; rotate_left; omega))); (try dsimp only); exact ⟨by first | rfl | omega, ⟨by omega, by omega, hA1138⟩, by omega, ⟨tk, z941, z1016, z1017, -1, -1, -1, 0, fx1159, by first | omega | (dsimp only; omega), by first | omega | (dsimp only; omega), by first | omega | (dsimp only; omega), by first | omega | (dsimp only; omega), fun h9 => by first | omega | (dsimp only at h9 ⊢; omega), fun h9 => by first | omega | (dsimp only at h9 ⊢; omega), ⟨_, _, fx1160, fx1161, by first | omega | (dsimp only; omega), by first | omega | (dsimp only; omega), b1140⟩, ⟨_, _, fx1162, fx1163, by first | omega | (dsimp only; omega), by first | omega | (dsimp only; omega), fun k9 hk9 => by first | omega | (dsimp only at hk9; omega)⟩⟩, by omega⟩), by omega, hSK0.ln (i := lz.length) (fun x7 hx7 => (o1154 x7 (by omega)).trans ((fr1085 x7 (by omega) (by omega) (by omega)).trans ((fr1010 x7 (by omega) (by omega)).trans ((fr933 x7 (by omega) (by omega) (by omega) (by omega)).trans ((fr39 x7 (by omega)).trans (fr28 x7 (by omega) (by omega) (by omega))))))) (by rw [← hit]; exact hls9), by omega⟩ dX7_takeLine_292
                ·
                  have z1169 : ¬ (tk).toInt = 0 := lv_neT h53 (by decide)
                  have z1170 : ¬ (tk).toInt = 1 := lv_neT h315 (by decide)
                  have z1171 : ¬ (tk).toInt = 2 := lv_neT h564 (by decide)
                  have z1172 : ¬ (tk).toInt = 3 := lv_neT h722 (by decide)
                  have z1173 : ¬ (tk).toInt = 4 := lv_neT h913 (by decide)
                  refine lv_tableOut (tgt := 256) hx hb dX7_takeLine_71 (by omega) (by decide) ?_
                  refine lv_aload_n hx hb dX7_takeLine_256 rfl (lv_at hl 1 rfl) ?_
                  refine lv_aload_n hx hb dX7_takeLine_257 rfl (lv_at hl 0 rfl) ?_
                  have fx1174 : V34 (kb + 3) = some (.inr (9, [.ref (kb + 3 + 1), .int (nz)])) := (fr39 (kb + 3) (hq_tne hy3 hy2 (by simp))).trans ((fr28 (kb + 3) (hq_tne hy3 hyi0 (by simp)) (hq_tne hy3 hyi1 (by simp)) (hq_tne hy3 hyi3 (by simp))).trans (hc1))
                  have fx1175 : V34 (kb + 4) = some (.inl (cs 0, 12, .inl (nf))) := (fr39 (kb + 4) (hq_tne hy4 hy2 (by simp))).trans ((fr28 (kb + 4) (hq_tne hy4 hyi0 (by simp)) (hq_tne hy4 hyi1 (by simp)) (hq_tne hy4 hyi3 (by simp))).trans (hc2))
                  have fx1176 : V34 (qb) = some (.inr (0, [.ref (qb + 1), .int (bc), .ref (qb + 14), .ref (qb + 75), .int (bv), .ref (qb + 76), .int (bl)])) := (fr39 (qb) (hq_tne hy5 hy2 (by simp))).trans ((fr28 (qb) (hq_tne hy5 hyi0 (by simp)) (hq_tne hy5 hyi1 (by simp)) (hq_tne hy5 hyi3 (by simp))).trans (hc3))
                  have hl1177 : (-1 : Int32).toInt = -1 := by decide
                  have hl1178 : (-1 : Int32).toInt = -1 := by decide
                  have hl1179 : (-1 : Int32).toInt = -1 := by decide
                  have hl1180 : (-1 : Int32).toInt = -1 := by decide
                  have hl1181 : (-1 : Int32).toInt = -1 := by decide
                  have hl1182 : (-1 : Int32).toInt = -1 := by decide
                  have hl1183 : (0 : Int32).toInt = 0 := by decide
                  have pk1184 := pk33.keep (fr39 (kb) (hq_tne hy0 hy2 (by simp))) (fr39 (kb + 1) (hq_tne hy1 hy2 (by simp)))
                  have pk1185 := hp1.keep ((fr39 (qb + 1) (hq_tne hy6 hy2 (by simp))).trans (fr28 (qb + 1) (hq_tne hy6 hyi0 (by simp)) (hq_tne hy6 hyi1 (by simp)) (hq_tne hy6 hyi3 (by simp)))) ((fr39 (qb + 14) (hq_tne hy7 hy2 (by simp))).trans (fr28 (qb + 14) (hq_tne hy7 hyi0 (by simp)) (hq_tne hy7 hyi1 (by simp)) (hq_tne hy7 hyi3 (by simp)))) ((fr39 (qb + 76) (hq_tne hy9 hy2 (by simp))).trans (fr28 (qb + 76) (hq_tne hy9 hyi0 (by simp)) (hq_tne hy9 hyi1 (by simp)) (hq_tne hy9 hyi3 (by simp))))
                  have pk1186 := hp3.keep (fun x7 (hx7 : qb + 15 ≤ x7 ∧ x7 < qb + 15 + 2 * vn.length) => (fr39 x7 (by omega)).trans (fr28 x7 (by omega) (by omega) (by omega)))
                  refine hp_calli (hp_runV (As := [.ref (it)]) (rest := []) hx hb hml hown hts (x_takeOwner l D cs B G V34 n hP.1 (kb) (qb) (w) (it) (bb) (j + 1) (vn) (fk) (fp) (z40) (z41) (z42) (nz) (nf) (tk) (-1) (-1) (-1) (-1) (-1) (-1) (0) (bc) (bv) (bl) hy0 hy1 hy2 hy3 hy4 hyi0 hyi1 hyi2 hyi3 hyi4 ho43 fx1174 fx1175 fx52 fx1176 pk1184 pk1185 pk1186 hp44 hq (by omega) (by omega) (by omega) hbv) hZ ho43 cv_X7_132 rfl rfl ⟨Nat.le_of_ble_eq_true rfl, Nat.le_of_ble_eq_true rfl⟩ rfl hl.1 rfl (Nat.le_of_ble_eq_true rfl) dX7_takeLine_258 ⟨(Nat.le_of_ble_eq_true rfl), (Nat.le_of_ble_eq_true rfl)⟩) hZ (fun r1190 V1187 n1188 _ _ hw1189 hZ => ?_)
                  obtain ⟨rfl, hq1191, fr1192, z1193, z1194, z1195, z1196, z1197, z1198, u1199, z1200, ho1201, ho1202, ho1203, ho1204, hp1205, hp1206, hp1207⟩ := hw1189
                  have b1208 := hq_rng z1193
                  have b1209 := hq_rng z1194
                  have b1210 := hq_rng z1195
                  have b1211 := hq_rng z1196
                  have b1212 := hq_rng z1197
                  have b1213 := hq_rng z1198
                  have b1214 := hq_rng z1200
                  have hP := hP.trans hq1191 (fun _ h => Bool.noConfusion h)
                  have hf1215 := hq_rgB hP.1 hy4 ho1203
                  have b1216 := hq_rng r1190
                  refine lv_if_eq (tgt := 276) hx hb dX7_takeLine_261 (by decide) (fun c1217 => ?_) (fun c1217 => ?_)
                  · have c1217 : (r1190).toInt = (0 : Int) := hq_eqi.mp c1217
                    have hF1218 := hx_D.pos hp1205 (by omega)
                    have b1219 := hF1218.1
                    have b1220 := hF1218.2.1
                    refine lv_iconst (v := 0) hx hb dX7_takeLine_276 (by decide) ?_
                    refine lv_istore_n (lv' := [(2, .int (0)), (1, .ref (it)), (0, .ref (kb + 2))]) hx hb dX7_takeLine_277 rfl hl (by decide) rfl (fun ls hl => ?_)
                    refine lv_aload_n hx hb dX7_takeLine_278 rfl (lv_at hl 2 rfl) ?_
                    refine hp_get (v := .ref (qb)) hx hb hts hown hZ ho1201 fl_X7_30 rfl dX7_takeLine_279 ?_
                    refine lv_dup hx hb dX7_takeLine_282 rfl ?_
                    have fx1221 : V1187 (qb) = some (.inr (0, [.ref (qb + 1), .int (bc), .ref (qb + 14), .ref (qb + 75), .int (bv), .ref (qb + 76), .int (bl)])) := (fr1192 (qb) (hq_tne hy5 hy2 (by simp)) (hq_tne hy5 hy3 (by simp)) (hq_tne hy5 hy4 (by simp)) (hq_tne hy5 hyi0 (by simp))).trans (fx1176)
                    refine hp_get (v := .int (bl)) hx hb hts hown hZ fx1221 fl_X7_94 rfl dX7_takeLine_283 ?_
                    refine lv_iconst (v := 1) hx hb dX7_takeLine_286 (by decide) ?_
                    refine lv_iadd hx hb dX7_takeLine_287 ?_
                    refine lv_topi (fun y1222 ey1223 => ?_)
                    obtain ⟨k1224, hk1225, b1226, b1227⟩ := hq_add (bl) (1)
                    rw [← ey1223] at hk1225 b1226 b1227
                    have hk1225 : (y1222).toInt = (bl).toInt + (1 : Int) + k1224 * 4294967296 := hk1225
                    obtain rfl : k1224 = 0 := by omega
                    refine hp_put hx hb hts hown hZ fx1221 fp_X7_94 rfl rfl (Nat.le_of_ble_eq_true rfl) dX7_takeLine_288 (fun V1228 _ _ e1229 o1230 hZ => ?_)
                    have e1229 : V1228 (qb) = some (.inr (0, [.ref (qb + 1), .int (bc), .ref (qb + 14), .ref (qb + 75), .int (bv), .ref (qb + 76), .int (y1222)])) := e1229
                    have hP := hP.put hy5 e1229 o1230 (hq_c6 hy6 hy7 hy8 hy9 (show 0 ≤ (bc).toInt ∧ (bc).toInt ≤ 6 by omega) (show 0 ≤ (bv).toInt ∧ (bv).toInt ≤ 30 by omega) (show 0 ≤ (y1222).toInt ∧ (y1222).toInt ≤ 60 by omega)) rfl
                    refine lv_iload_n hx hb dX7_takeLine_291 rfl (lv_at hl 0 rfl) ?_
                    have hl1231 : (0 : Int32).toInt = 0 := by decide
                    have fx1232 : V1228 (kb + 2) = some (.inr (7, [.int (z1193), .int (z1194), .ref (kb), .ref (qb), .int (z1195), .int (z1196), .int (z1197), .ref (kb + 3)])) := (o1230 (kb + 2) (hq_tne hy2 hy5 (by simp))).trans (ho1201)
                    have fx1233 : V1228 (kb + 3) = some (.inr (9, [.ref (kb + 4), .int (z1198)])) := (o1230 (kb + 3) (hq_tne hy3 hy5 (by simp))).trans (ho1202)
                    have fx1234 : V1228 (kb + 4) = some (.inl (cs 0, 12, .inl (u1199))) := (o1230 (kb + 4) (hq_tne hy4 hy5 (by simp))).trans (ho1203)
                    have fx1235 : V1228 (it) = some (.inr (5, [.int (tk), .int (z1200), .int (-1), .int (-1), .int (-1), .int (-1), .int (-1), .int (0), .ref (it + 1), .ref (it + 3)])) := (o1230 (it) (hq_tne hyi0 hy5 (by simp))).trans (ho1204)
                    have fx1236 : V1228 (it + 1) = some (.inr (9, [.ref (it + 2), .int (0)])) := (o1230 (it + 1) (hq_tne hyi1 hy5 (by simp))).trans ((fr1192 (it + 1) (hq_tne hyi1 hy2 (by simp)) (hq_tne hyi1 hy3 (by simp)) (hq_tne hyi1 hy4 (by simp)) (hq_tne hyi1 hyi0 (by simp))).trans ((fr39 (it + 1) (hq_tne hyi1 hy2 (by simp))).trans (ho30)))
                    have fx1237 : V1228 (it + 2) = some (.inl (cs 0, 8, .inl (ff))) := (o1230 (it + 2) (hq_tne hyi2 hy5 (by simp))).trans ((fr1192 (it + 2) (hq_tne hyi2 hy2 (by simp)) (hq_tne hyi2 hy3 (by simp)) (hq_tne hyi2 hy4 (by simp)) (hq_tne hyi2 hyi0 (by simp))).trans ((fr39 (it + 2) (hq_tne hyi2 hy2 (by simp))).trans ((fr28 (it + 2) (hq_tne hyi2 hyi0 (by simp)) (hq_tne hyi2 hyi1 (by simp)) (hq_tne hyi2 hyi3 (by simp))).trans (hl2))))
                    have fx1238 : V1228 (it + 3) = some (.inr (9, [.ref (it + 4), .int (0)])) := (o1230 (it + 3) (hq_tne hyi3 hy5 (by simp))).trans ((fr1192 (it + 3) (hq_tne hyi3 hy2 (by simp)) (hq_tne hyi3 hy3 (by simp)) (hq_tne hyi3 hy4 (by simp)) (hq_tne hyi3 hyi0 (by simp))).trans ((fr39 (it + 3) (hq_tne hyi3 hy2 (by simp))).trans (ho31)))
                    have fx1239 : V1228 (it + 4) = some (.inl (cs 0, 8, .inl (sf))) := (o1230 (it + 4) (hq_tne hyi4 hy5 (by simp))).trans ((fr1192 (it + 4) (hq_tne hyi4 hy2 (by simp)) (hq_tne hyi4 hy3 (by simp)) (hq_tne hyi4 hy4 (by simp)) (hq_tne hyi4 hyi0 (by simp))).trans ((fr39 (it + 4) (hq_tne hyi4 hy2 (by simp))).trans ((fr28 (it + 4) (hq_tne hyi4 hyi0 (by simp)) (hq_tne hyi4 hyi1 (by simp)) (hq_tne hyi4 hyi3 (by simp))).trans (hl4))))
                    have hl1240 : (-1 : Int32).toInt = -1 := by decide
                    have hl1241 : (-1 : Int32).toInt = -1 := by decide
                    have hl1242 : (-1 : Int32).toInt = -1 := by decide
                    have hl1243 : (-1 : Int32).toInt = -1 := by decide
                    have hl1244 : (-1 : Int32).toInt = -1 := by decide
                    have hl1245 : (0 : Int32).toInt = 0 := by decide
                    have hl1246 : (0 : Int32).toInt = 0 := by decide
                    have hl1247 : (0 : Int32).toInt = 0 := by decide
                    have hls9 : hx_LS cs V1228 it := ⟨⟨tk, z1200, -1, -1, -1, -1, -1, 0, fx1235, by omega⟩, ⟨_, _, fx1236, fx1237, by omega⟩, ⟨_, _, fx1238, fx1239, by omega⟩⟩
                    exact hp_zret hx hb hr rfl hlocks hZ ⟨rfl, hP, (fun x8 hne0 hne1 hne2 hne3 hne4 hne5 hne6 hne7 hne8 => (o1230 x8 hne3).trans ((fr1192 x8 hne0 hne1 hne2 hne4).trans ((fr39 x8 hne0).trans (fr28 x8 hne4 hne5 hne7)))), z1193, z1194, z1195, z1196, z1197, z1198, u1199, y1222, fx1232, fx1233, fx1234, e1229, hx_D.l (by omega) (by unfold sp_tl sp_line; (try dsimp only); (repeat (first | (rw [if_pos]; rotate_left; omega) | (rw [if_neg]; rotate_left; omega))); (try dsimp only); exact hF1218), by omega, hSK0.ln (i := lz.length) (fun x7 hx7 => (o1230 x7 (by omega)).trans ((fr1192 x7 (by omega) (by omega) (by omega) (by omega)).trans ((fr39 x7 (by omega)).trans (fr28 x7 (by omega) (by omega) (by omega))))) (by rw [← hit]; exact hls9), by omega⟩ dX7_takeLine_292
                  · have c1217 : ¬ (r1190).toInt = (0 : Int) := fun h9 => c1217 (hq_eqi.mpr h9)
                    obtain ⟨b1248, ⟨b1249, b1250, hA1251⟩, b1252⟩ := hx_D.neg hp1205 (by omega)
                    obtain ⟨b1253, b1254, b1255, b1256⟩ := id hA1251
                    refine lv_aload_n hx hb dX7_takeLine_264 rfl (lv_at hl 1 rfl) ?_
                    refine lv_aload_n hx hb dX7_takeLine_265 rfl (lv_at hl 0 rfl) ?_
                    have hl1257 : (-1 : Int32).toInt = -1 := by decide
                    have hl1258 : (-1 : Int32).toInt = -1 := by decide
                    have hl1259 : (-1 : Int32).toInt = -1 := by decide
                    have hl1260 : (-1 : Int32).toInt = -1 := by decide
                    have hl1261 : (-1 : Int32).toInt = -1 := by decide
                    have hl1262 : (0 : Int32).toInt = 0 := by decide
                    have pk1263 := pk1184.keep (fr1192 (kb) (hq_tne hy0 hy2 (by simp)) (hq_tne hy0 hy3 (by simp)) (hq_tne hy0 hy4 (by simp)) (hq_tne hy0 hyi0 (by simp))) (fr1192 (kb + 1) (hq_tne hy1 hy2 (by simp)) (hq_tne hy1 hy3 (by simp)) (hq_tne hy1 hy4 (by simp)) (hq_tne hy1 hyi0 (by simp)))
                    refine hp_calli (hp_runV (As := [.ref (it)]) (rest := []) hx hb hml hown hts (x_takeSlot l D cs B G V1187 n hP.1 (kb) (qb) (w) (it) (bb) ((sp_old w vn (j + 1)).2.1) (z1193) (z1194) (z1195) (z1196) (z1197) (tk) (z1200) (-1) (-1) (-1) (-1) (-1) (0) hy0 hy1 hy2 hyi0 hyi1 hyi2 hyi3 hyi4 ho1201 ho1204 pk1263 hA1251 hq (by omega) (by omega) (by omega)) hZ ho1201 cv_X7_113 rfl rfl ⟨Nat.le_of_ble_eq_true rfl, Nat.le_of_ble_eq_true rfl⟩ rfl hl.1 rfl (Nat.le_of_ble_eq_true rfl) dX7_takeLine_266 ⟨(Nat.le_of_ble_eq_true rfl), (Nat.le_of_ble_eq_true rfl)⟩) hZ (fun r1267 V1264 n1265 _ _ hw1266 hZ => ?_)
                    obtain ⟨rfl, hq1268, fr1269, z1270, z1271, z1272, z1273, z1274, z1275, z1276, ho1277, ho1278, hp1279, hp1280⟩ := hw1266
                    have b1281 := hq_rng z1270
                    have b1282 := hq_rng z1271
                    have b1283 := hq_rng z1272
                    have b1284 := hq_rng z1273
                    have b1285 := hq_rng z1274
                    have b1286 := hq_rng z1275
                    have b1287 := hq_rng z1276
                    have hP := hP.trans hq1268 (fun _ h => Bool.noConfusion h)
                    have b1288 := hq_rng r1267
                    refine lv_if_eq (tgt := 276) hx hb dX7_takeLine_269 (by decide) (fun c1289 => ?_) (fun c1289 => ?_)
                    · have c1289 : (r1267).toInt = (0 : Int) := hq_eqi.mp c1289
                      have hF1290 := hx_D.pos hp1279 (by omega)
                      have b1291 := hF1290.1
                      have b1292 := hF1290.2.1
                      refine lv_iconst (v := 0) hx hb dX7_takeLine_276 (by decide) ?_
                      refine lv_istore_n (lv' := [(2, .int (0)), (1, .ref (it)), (0, .ref (kb + 2))]) hx hb dX7_takeLine_277 rfl hl (by decide) rfl (fun ls hl => ?_)
                      refine lv_aload_n hx hb dX7_takeLine_278 rfl (lv_at hl 2 rfl) ?_
                      refine hp_get (v := .ref (qb)) hx hb hts hown hZ ho1277 fl_X7_30 rfl dX7_takeLine_279 ?_
                      refine lv_dup hx hb dX7_takeLine_282 rfl ?_
                      have fx1293 : V1264 (qb) = some (.inr (0, [.ref (qb + 1), .int (bc), .ref (qb + 14), .ref (qb + 75), .int (bv), .ref (qb + 76), .int (bl)])) := (fr1269 (qb) (hq_tne hy5 hy2 (by simp)) (hq_tne hy5 hyi0 (by simp))).trans ((fr1192 (qb) (hq_tne hy5 hy2 (by simp)) (hq_tne hy5 hy3 (by simp)) (hq_tne hy5 hy4 (by simp)) (hq_tne hy5 hyi0 (by simp))).trans (fx1176))
                      refine hp_get (v := .int (bl)) hx hb hts hown hZ fx1293 fl_X7_94 rfl dX7_takeLine_283 ?_
                      refine lv_iconst (v := 1) hx hb dX7_takeLine_286 (by decide) ?_
                      refine lv_iadd hx hb dX7_takeLine_287 ?_
                      refine lv_topi (fun y1294 ey1295 => ?_)
                      obtain ⟨k1296, hk1297, b1298, b1299⟩ := hq_add (bl) (1)
                      rw [← ey1295] at hk1297 b1298 b1299
                      have hk1297 : (y1294).toInt = (bl).toInt + (1 : Int) + k1296 * 4294967296 := hk1297
                      obtain rfl : k1296 = 0 := by omega
                      refine hp_put hx hb hts hown hZ fx1293 fp_X7_94 rfl rfl (Nat.le_of_ble_eq_true rfl) dX7_takeLine_288 (fun V1300 _ _ e1301 o1302 hZ => ?_)
                      have e1301 : V1300 (qb) = some (.inr (0, [.ref (qb + 1), .int (bc), .ref (qb + 14), .ref (qb + 75), .int (bv), .ref (qb + 76), .int (y1294)])) := e1301
                      have hP := hP.put hy5 e1301 o1302 (hq_c6 hy6 hy7 hy8 hy9 (show 0 ≤ (bc).toInt ∧ (bc).toInt ≤ 6 by omega) (show 0 ≤ (bv).toInt ∧ (bv).toInt ≤ 30 by omega) (show 0 ≤ (y1294).toInt ∧ (y1294).toInt ≤ 60 by omega)) rfl
                      refine lv_iload_n hx hb dX7_takeLine_291 rfl (lv_at hl 0 rfl) ?_
                      have hl1303 : (0 : Int32).toInt = 0 := by decide
                      have fx1304 : V1300 (kb + 2) = some (.inr (7, [.int (z1270), .int (z1271), .ref (kb), .ref (qb), .int (z1272), .int (z1273), .int (z1274), .ref (kb + 3)])) := (o1302 (kb + 2) (hq_tne hy2 hy5 (by simp))).trans (ho1277)
                      have fx1305 : V1300 (kb + 3) = some (.inr (9, [.ref (kb + 4), .int (z1198)])) := (o1302 (kb + 3) (hq_tne hy3 hy5 (by simp))).trans ((fr1269 (kb + 3) (hq_tne hy3 hy2 (by simp)) (hq_tne hy3 hyi0 (by simp))).trans (ho1202))
                      have fx1306 : V1300 (kb + 4) = some (.inl (cs 0, 12, .inl (u1199))) := (o1302 (kb + 4) (hq_tne hy4 hy5 (by simp))).trans ((fr1269 (kb + 4) (hq_tne hy4 hy2 (by simp)) (hq_tne hy4 hyi0 (by simp))).trans (ho1203))
                      have fx1307 : V1300 (it) = some (.inr (5, [.int (tk), .int (z1200), .int (z1275), .int (z1276), .int (-1), .int (-1), .int (-1), .int (0), .ref (it + 1), .ref (it + 3)])) := (o1302 (it) (hq_tne hyi0 hy5 (by simp))).trans (ho1278)
                      have fx1308 : V1300 (it + 1) = some (.inr (9, [.ref (it + 2), .int (0)])) := (o1302 (it + 1) (hq_tne hyi1 hy5 (by simp))).trans ((fr1269 (it + 1) (hq_tne hyi1 hy2 (by simp)) (hq_tne hyi1 hyi0 (by simp))).trans ((fr1192 (it + 1) (hq_tne hyi1 hy2 (by simp)) (hq_tne hyi1 hy3 (by simp)) (hq_tne hyi1 hy4 (by simp)) (hq_tne hyi1 hyi0 (by simp))).trans ((fr39 (it + 1) (hq_tne hyi1 hy2 (by simp))).trans (ho30))))
                      have fx1309 : V1300 (it + 2) = some (.inl (cs 0, 8, .inl (ff))) := (o1302 (it + 2) (hq_tne hyi2 hy5 (by simp))).trans ((fr1269 (it + 2) (hq_tne hyi2 hy2 (by simp)) (hq_tne hyi2 hyi0 (by simp))).trans ((fr1192 (it + 2) (hq_tne hyi2 hy2 (by simp)) (hq_tne hyi2 hy3 (by simp)) (hq_tne hyi2 hy4 (by simp)) (hq_tne hyi2 hyi0 (by simp))).trans ((fr39 (it + 2) (hq_tne hyi2 hy2 (by simp))).trans ((fr28 (it + 2) (hq_tne hyi2 hyi0 (by simp)) (hq_tne hyi2 hyi1 (by simp)) (hq_tne hyi2 hyi3 (by simp))).trans (hl2)))))
                      have fx1310 : V1300 (it + 3) = some (.inr (9, [.ref (it + 4), .int (0)])) := (o1302 (it + 3) (hq_tne hyi3 hy5 (by simp))).trans ((fr1269 (it + 3) (hq_tne hyi3 hy2 (by simp)) (hq_tne hyi3 hyi0 (by simp))).trans ((fr1192 (it + 3) (hq_tne hyi3 hy2 (by simp)) (hq_tne hyi3 hy3 (by simp)) (hq_tne hyi3 hy4 (by simp)) (hq_tne hyi3 hyi0 (by simp))).trans ((fr39 (it + 3) (hq_tne hyi3 hy2 (by simp))).trans (ho31))))
                      have fx1311 : V1300 (it + 4) = some (.inl (cs 0, 8, .inl (sf))) := (o1302 (it + 4) (hq_tne hyi4 hy5 (by simp))).trans ((fr1269 (it + 4) (hq_tne hyi4 hy2 (by simp)) (hq_tne hyi4 hyi0 (by simp))).trans ((fr1192 (it + 4) (hq_tne hyi4 hy2 (by simp)) (hq_tne hyi4 hy3 (by simp)) (hq_tne hyi4 hy4 (by simp)) (hq_tne hyi4 hyi0 (by simp))).trans ((fr39 (it + 4) (hq_tne hyi4 hy2 (by simp))).trans ((fr28 (it + 4) (hq_tne hyi4 hyi0 (by simp)) (hq_tne hyi4 hyi1 (by simp)) (hq_tne hyi4 hyi3 (by simp))).trans (hl4)))))
                      have hl1312 : (-1 : Int32).toInt = -1 := by decide
                      have hl1313 : (-1 : Int32).toInt = -1 := by decide
                      have hl1314 : (-1 : Int32).toInt = -1 := by decide
                      have hl1315 : (0 : Int32).toInt = 0 := by decide
                      have hl1316 : (0 : Int32).toInt = 0 := by decide
                      have hl1317 : (0 : Int32).toInt = 0 := by decide
                      have hls9 : hx_LS cs V1300 it := ⟨⟨tk, z1200, z1275, z1276, -1, -1, -1, 0, fx1307, by omega⟩, ⟨_, _, fx1308, fx1309, by omega⟩, ⟨_, _, fx1310, fx1311, by omega⟩⟩
                      exact hp_zret hx hb hr rfl hlocks hZ ⟨rfl, hP, (fun x8 hne0 hne1 hne2 hne3 hne4 hne5 hne6 hne7 hne8 => (o1302 x8 hne3).trans ((fr1269 x8 hne0 hne4).trans ((fr1192 x8 hne0 hne1 hne2 hne4).trans ((fr39 x8 hne0).trans (fr28 x8 hne4 hne5 hne7))))), z1270, z1271, z1272, z1273, z1274, z1198, u1199, y1294, fx1304, fx1305, fx1306, e1301, hx_D.l (by omega) (by unfold sp_tl sp_line; (try dsimp only); (repeat (first | (rw [if_pos]; rotate_left; omega) | (rw [if_neg]; rotate_left; omega))); (try dsimp only); exact hF1290), by omega, hSK0.ln (i := lz.length) (fun x7 hx7 => (o1302 x7 (by omega)).trans ((fr1269 x7 (by omega) (by omega)).trans ((fr1192 x7 (by omega) (by omega) (by omega) (by omega)).trans ((fr39 x7 (by omega)).trans (fr28 x7 (by omega) (by omega) (by omega)))))) (by rw [← hit]; exact hls9), by omega⟩ dX7_takeLine_292
                    · have c1289 : ¬ (r1267).toInt = (0 : Int) := fun h9 => c1289 (hq_eqi.mpr h9)
                      obtain ⟨b1318, ⟨b1319, b1320, hA1321⟩, b1322, b1323⟩ := hx_D.neg hp1279 (by omega)
                      obtain ⟨b1324, b1325, b1326, b1327⟩ := id hA1321
                      refine lv_iconst (v := 1) hx hb dX7_takeLine_272 (by decide) ?_
                      refine lv_goto (tgt := 277) hx hb dX7_takeLine_273 (by decide) ?_
                      refine lv_istore_n (lv' := [(2, .int (1)), (1, .ref (it)), (0, .ref (kb + 2))]) hx hb dX7_takeLine_277 rfl hl (by decide) rfl (fun ls hl => ?_)
                      refine lv_aload_n hx hb dX7_takeLine_278 rfl (lv_at hl 2 rfl) ?_
                      refine hp_get (v := .ref (qb)) hx hb hts hown hZ ho1277 fl_X7_30 rfl dX7_takeLine_279 ?_
                      refine lv_dup hx hb dX7_takeLine_282 rfl ?_
                      have fx1328 : V1264 (qb) = some (.inr (0, [.ref (qb + 1), .int (bc), .ref (qb + 14), .ref (qb + 75), .int (bv), .ref (qb + 76), .int (bl)])) := (fr1269 (qb) (hq_tne hy5 hy2 (by simp)) (hq_tne hy5 hyi0 (by simp))).trans ((fr1192 (qb) (hq_tne hy5 hy2 (by simp)) (hq_tne hy5 hy3 (by simp)) (hq_tne hy5 hy4 (by simp)) (hq_tne hy5 hyi0 (by simp))).trans (fx1176))
                      refine hp_get (v := .int (bl)) hx hb hts hown hZ fx1328 fl_X7_94 rfl dX7_takeLine_283 ?_
                      refine lv_iconst (v := 1) hx hb dX7_takeLine_286 (by decide) ?_
                      refine lv_iadd hx hb dX7_takeLine_287 ?_
                      refine lv_topi (fun y1329 ey1330 => ?_)
                      obtain ⟨k1331, hk1332, b1333, b1334⟩ := hq_add (bl) (1)
                      rw [← ey1330] at hk1332 b1333 b1334
                      have hk1332 : (y1329).toInt = (bl).toInt + (1 : Int) + k1331 * 4294967296 := hk1332
                      obtain rfl : k1331 = 0 := by omega
                      refine hp_put hx hb hts hown hZ fx1328 fp_X7_94 rfl rfl (Nat.le_of_ble_eq_true rfl) dX7_takeLine_288 (fun V1335 _ _ e1336 o1337 hZ => ?_)
                      have e1336 : V1335 (qb) = some (.inr (0, [.ref (qb + 1), .int (bc), .ref (qb + 14), .ref (qb + 75), .int (bv), .ref (qb + 76), .int (y1329)])) := e1336
                      have hP := hP.put hy5 e1336 o1337 (hq_c6 hy6 hy7 hy8 hy9 (show 0 ≤ (bc).toInt ∧ (bc).toInt ≤ 6 by omega) (show 0 ≤ (bv).toInt ∧ (bv).toInt ≤ 30 by omega) (show 0 ≤ (y1329).toInt ∧ (y1329).toInt ≤ 60 by omega)) rfl
                      refine lv_iload_n hx hb dX7_takeLine_291 rfl (lv_at hl 0 rfl) ?_
                      have hl1338 : (1 : Int32).toInt = 1 := by decide
                      have fx1339 : V1335 (kb + 2) = some (.inr (7, [.int (z1270), .int (z1271), .ref (kb), .ref (qb), .int (z1272), .int (z1273), .int (z1274), .ref (kb + 3)])) := (o1337 (kb + 2) (hq_tne hy2 hy5 (by simp))).trans (ho1277)
                      have fx1340 : V1335 (kb + 3) = some (.inr (9, [.ref (kb + 4), .int (z1198)])) := (o1337 (kb + 3) (hq_tne hy3 hy5 (by simp))).trans ((fr1269 (kb + 3) (hq_tne hy3 hy2 (by simp)) (hq_tne hy3 hyi0 (by simp))).trans (ho1202))
                      have fx1341 : V1335 (kb + 4) = some (.inl (cs 0, 12, .inl (u1199))) := (o1337 (kb + 4) (hq_tne hy4 hy5 (by simp))).trans ((fr1269 (kb + 4) (hq_tne hy4 hy2 (by simp)) (hq_tne hy4 hyi0 (by simp))).trans (ho1203))
                      have fx1342 : V1335 (it) = some (.inr (5, [.int (tk), .int (z1200), .int (z1275), .int (z1276), .int (-1), .int (-1), .int (-1), .int (0), .ref (it + 1), .ref (it + 3)])) := (o1337 (it) (hq_tne hyi0 hy5 (by simp))).trans (ho1278)
                      have fx1343 : V1335 (it + 1) = some (.inr (9, [.ref (it + 2), .int (0)])) := (o1337 (it + 1) (hq_tne hyi1 hy5 (by simp))).trans ((fr1269 (it + 1) (hq_tne hyi1 hy2 (by simp)) (hq_tne hyi1 hyi0 (by simp))).trans ((fr1192 (it + 1) (hq_tne hyi1 hy2 (by simp)) (hq_tne hyi1 hy3 (by simp)) (hq_tne hyi1 hy4 (by simp)) (hq_tne hyi1 hyi0 (by simp))).trans ((fr39 (it + 1) (hq_tne hyi1 hy2 (by simp))).trans (ho30))))
                      have fx1344 : V1335 (it + 2) = some (.inl (cs 0, 8, .inl (ff))) := (o1337 (it + 2) (hq_tne hyi2 hy5 (by simp))).trans ((fr1269 (it + 2) (hq_tne hyi2 hy2 (by simp)) (hq_tne hyi2 hyi0 (by simp))).trans ((fr1192 (it + 2) (hq_tne hyi2 hy2 (by simp)) (hq_tne hyi2 hy3 (by simp)) (hq_tne hyi2 hy4 (by simp)) (hq_tne hyi2 hyi0 (by simp))).trans ((fr39 (it + 2) (hq_tne hyi2 hy2 (by simp))).trans ((fr28 (it + 2) (hq_tne hyi2 hyi0 (by simp)) (hq_tne hyi2 hyi1 (by simp)) (hq_tne hyi2 hyi3 (by simp))).trans (hl2)))))
                      have fx1345 : V1335 (it + 3) = some (.inr (9, [.ref (it + 4), .int (0)])) := (o1337 (it + 3) (hq_tne hyi3 hy5 (by simp))).trans ((fr1269 (it + 3) (hq_tne hyi3 hy2 (by simp)) (hq_tne hyi3 hyi0 (by simp))).trans ((fr1192 (it + 3) (hq_tne hyi3 hy2 (by simp)) (hq_tne hyi3 hy3 (by simp)) (hq_tne hyi3 hy4 (by simp)) (hq_tne hyi3 hyi0 (by simp))).trans ((fr39 (it + 3) (hq_tne hyi3 hy2 (by simp))).trans (ho31))))
                      have fx1346 : V1335 (it + 4) = some (.inl (cs 0, 8, .inl (sf))) := (o1337 (it + 4) (hq_tne hyi4 hy5 (by simp))).trans ((fr1269 (it + 4) (hq_tne hyi4 hy2 (by simp)) (hq_tne hyi4 hyi0 (by simp))).trans ((fr1192 (it + 4) (hq_tne hyi4 hy2 (by simp)) (hq_tne hyi4 hy3 (by simp)) (hq_tne hyi4 hy4 (by simp)) (hq_tne hyi4 hyi0 (by simp))).trans ((fr39 (it + 4) (hq_tne hyi4 hy2 (by simp))).trans ((fr28 (it + 4) (hq_tne hyi4 hyi0 (by simp)) (hq_tne hyi4 hyi1 (by simp)) (hq_tne hyi4 hyi3 (by simp))).trans (hl4)))))
                      have hl1347 : (-1 : Int32).toInt = -1 := by decide
                      have hl1348 : (-1 : Int32).toInt = -1 := by decide
                      have hl1349 : (-1 : Int32).toInt = -1 := by decide
                      have hl1350 : (0 : Int32).toInt = 0 := by decide
                      have hl1351 : (0 : Int32).toInt = 0 := by decide
                      have hl1352 : (0 : Int32).toInt = 0 := by decide
                      have hls9 : hx_LS cs V1335 it := ⟨⟨tk, z1200, z1275, z1276, -1, -1, -1, 0, fx1342, by omega⟩, ⟨_, _, fx1343, fx1344, by omega⟩, ⟨_, _, fx1345, fx1346, by omega⟩⟩
                      exact hp_zret hx hb hr rfl hlocks hZ ⟨rfl, hP, (fun x8 hne0 hne1 hne2 hne3 hne4 hne5 hne6 hne7 hne8 => (o1337 x8 hne3).trans ((fr1269 x8 hne0 hne4).trans ((fr1192 x8 hne0 hne1 hne2 hne4).trans ((fr39 x8 hne0).trans (fr28 x8 hne4 hne5 hne7))))), z1270, z1271, z1272, z1273, z1274, z1198, u1199, y1329, fx1339, fx1340, fx1341, e1336, hx_D.r (by omega) (by unfold sp_tl sp_line; (try dsimp only); (repeat (first | (rw [if_pos]; rotate_left; omega) | (rw [if_neg]; rotate_left; omega))); (try dsimp only); exact ⟨by first | rfl | omega, ⟨by omega, by omega, hA1321⟩, by omega, ⟨tk, z1200, z1275, z1276, -1, -1, -1, 0, fx1342, by first | omega | (dsimp only; omega), by first | omega | (dsimp only; omega), by first | omega | (dsimp only; omega), by first | omega | (dsimp only; omega), fun h9 => by first | omega | (dsimp only at h9 ⊢; omega), fun h9 => by first | omega | (dsimp only at h9 ⊢; omega), ⟨_, _, fx1343, fx1344, by first | omega | (dsimp only; omega), by first | omega | (dsimp only; omega), fun k9 hk9 => by first | omega | (dsimp only at hk9; omega)⟩, ⟨_, _, fx1345, fx1346, by first | omega | (dsimp only; omega), by first | omega | (dsimp only; omega), fun k9 hk9 => by first | omega | (dsimp only at hk9; omega)⟩⟩, by omega⟩), by omega, hSK0.ln (i := lz.length) (fun x7 hx7 => (o1337 x7 (by omega)).trans ((fr1269 x7 (by omega) (by omega)).trans ((fr1192 x7 (by omega) (by omega) (by omega) (by omega)).trans ((fr39 x7 (by omega)).trans (fr28 x7 (by omega) (by omega) (by omega)))))) (by rw [← hit]; exact hls9), by omega⟩ dX7_takeLine_292
      · have c22 : ¬ (bl).toInt < (60 : Int) := fun h9 => c22 (hq_lti.mpr h9)
        refine lv_aload_n hx hb dX7_takeLine_33 rfl (lv_at hl 0 rfl) ?_
        refine lv_iconst (v := 4) hx hb dX7_takeLine_34 (by decide) ?_
        have hl1353 : (4 : Int32).toInt = 4 := by decide
        refine hp_calli (hp_runV (As := [.int (4)]) (rest := []) hx hb hml hown hts (x_refuse l D cs B G V n hP.1 (kb) (qb) (4) (fk) (fp) (nx) (tk) (st) hy2 hc0  ) hZ hc0 cv_X7_65 rfl rfl ⟨Nat.le_of_ble_eq_true rfl, Nat.le_of_ble_eq_true rfl⟩ rfl hl.1 rfl (Nat.le_of_ble_eq_true rfl) dX7_takeLine_35 ⟨(Nat.le_of_ble_eq_true rfl), (Nat.le_of_ble_eq_true rfl)⟩) hZ (fun r1357 V1354 n1355 _ _ hw1356 hZ => ?_)
        obtain ⟨rfl, hq1358, fr1359, ho1360, hp1361⟩ := hw1356
        have hP := hP.trans hq1358 (fun _ h => Bool.noConfusion h)
        have b1362 := hq_rng r1357
        have fx1363 : V1354 (kb + 3) = some (.inr (9, [.ref (kb + 3 + 1), .int (nz)])) := (fr1359 (kb + 3) (hq_tne hy3 hy2 (by simp))).trans (hc1)
        have fx1364 : V1354 (kb + 4) = some (.inl (cs 0, 12, .inl (nf))) := (fr1359 (kb + 4) (hq_tne hy4 hy2 (by simp))).trans (hc2)
        have fx1365 : V1354 (qb) = some (.inr (0, [.ref (qb + 1), .int (bc), .ref (qb + 14), .ref (qb + 75), .int (bv), .ref (qb + 76), .int (bl)])) := (fr1359 (qb) (hq_tne hy5 hy2 (by simp))).trans (hc3)
        have hl1366 : (4 : Int32).toInt = 4 := by decide
        have pk1367 := hp5.keep (fun x7 (hx7 : qb + 2 ≤ x7 ∧ x7 < qb + 377) => fr1359 x7 (by omega))
        exact hp_zret hx hb hr (hq_nzi (by omega) (by omega)) hlocks hZ ⟨rfl, hP, (fun x8 hne0 hne1 hne2 hne3 hne4 hne5 hne6 hne7 hne8 => fr1359 x8 hne0), 4, st, nx, tk, st, nz, nf, bl, ho1360, fx1363, fx1364, fx1365, hx_D.l (by omega) (by unfold sp_tl; (try dsimp only); (repeat (first | (rw [if_pos]; rotate_left; omega) | (rw [if_neg]; rotate_left; omega))); exact ⟨by omega, by omega, by omega⟩), by omega, pk1367, by omega⟩ dX7_takeLine_38
    · have c21 : ¬ (tk).toInt ≤ (5 : Int) := fun h9 => c21 (hq_lei.mpr h9)
      refine lv_aload_n hx hb dX7_takeLine_15 rfl (lv_at hl 0 rfl) ?_
      refine lv_iconst (v := 1) hx hb dX7_takeLine_16 (by decide) ?_
      have hl1368 : (1 : Int32).toInt = 1 := by decide
      refine hp_calli (hp_runV (As := [.int (1)]) (rest := []) hx hb hml hown hts (x_refuse l D cs B G V n hP.1 (kb) (qb) (1) (fk) (fp) (nx) (tk) (st) hy2 hc0  ) hZ hc0 cv_X7_65 rfl rfl ⟨Nat.le_of_ble_eq_true rfl, Nat.le_of_ble_eq_true rfl⟩ rfl hl.1 rfl (Nat.le_of_ble_eq_true rfl) dX7_takeLine_17 ⟨(Nat.le_of_ble_eq_true rfl), (Nat.le_of_ble_eq_true rfl)⟩) hZ (fun r1372 V1369 n1370 _ _ hw1371 hZ => ?_)
      obtain ⟨rfl, hq1373, fr1374, ho1375, hp1376⟩ := hw1371
      have hP := hP.trans hq1373 (fun _ h => Bool.noConfusion h)
      have b1377 := hq_rng r1372
      have fx1378 : V1369 (kb + 3) = some (.inr (9, [.ref (kb + 3 + 1), .int (nz)])) := (fr1374 (kb + 3) (hq_tne hy3 hy2 (by simp))).trans (hc1)
      have fx1379 : V1369 (kb + 4) = some (.inl (cs 0, 12, .inl (nf))) := (fr1374 (kb + 4) (hq_tne hy4 hy2 (by simp))).trans (hc2)
      have fx1380 : V1369 (qb) = some (.inr (0, [.ref (qb + 1), .int (bc), .ref (qb + 14), .ref (qb + 75), .int (bv), .ref (qb + 76), .int (bl)])) := (fr1374 (qb) (hq_tne hy5 hy2 (by simp))).trans (hc3)
      have hl1381 : (1 : Int32).toInt = 1 := by decide
      have pk1382 := hp5.keep (fun x7 (hx7 : qb + 2 ≤ x7 ∧ x7 < qb + 377) => fr1374 x7 (by omega))
      exact hp_zret hx hb hr (hq_nzi (by omega) (by omega)) hlocks hZ ⟨rfl, hP, (fun x8 hne0 hne1 hne2 hne3 hne4 hne5 hne6 hne7 hne8 => fr1374 x8 hne0), 1, st, nx, tk, st, nz, nf, bl, ho1375, fx1378, fx1379, fx1380, hx_D.l (by omega) (by unfold sp_tl; (try dsimp only); (repeat (first | (rw [if_pos]; rotate_left; omega) | (rw [if_neg]; rotate_left; omega))); exact ⟨by omega, by omega, by omega⟩), by omega, pk1382, by omega⟩ dX7_takeLine_20

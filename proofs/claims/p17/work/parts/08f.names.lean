set_option maxHeartbeats 4000000 in
set_option maxRecDepth 100000 in
theorem x_takeLetters (l : Launch) (D : va_G) (cs : Nat → ClassId) (B : Nat) (G : hq_G) (V : hp_V) (n : Nat) (hI : hq_I cs G V) (kb : Nat) (qb : Nat) (w : sp_W) (j : Nat) (u : Nat) (fk : Int32) (fp : Int32) (nx : Int32) (tk : Int32) (st : Int32) (uz : Int32) (uf : Nat → Int32) (hy0 : G (kb) = some (0, 4000, 0, 0)) (hy1 : G (kb + 1) = some (1, 4000, 0, 0)) (hy2 : G (kb + 2) = some (10, 0, 0, 0)) (hy3 : G (u) = some (0, 8, 0, 0)) (hy4 : G (u + 1) = some (1, 8, 0, 0)) (hc0 : V (kb + 2) = some (.inr (7, [.int (fk), .int (fp), .ref (kb), .ref (qb), .int (nx), .int (tk), .int (st), .ref (kb + 3)]))) (hc1 : V (u) = some (.inr (9, [.ref (u + 1), .int (uz)]))) (hc2 : V (u + 1) = some (.inl (cs 0, 8, .inl (uf)))) (hp0 : hx_TP cs V kb w) (hA : hx_A w j st nx tk) (hu : kb + 5 ≤ u) (huz : 0 ≤ uz.toInt ∧ uz.toInt ≤ 8) : hp_M l yX7_takeLetters cX7_takeLetters 2 (some .boolean) ({ frames := 7, cells := 0, slots := 0, locals := 152 }) D cs B V n [.ref (kb + 2), .ref (u)] (hp_QI D cs B (fun r V' n' => n = n' ∧ hq_P cs G (fun _ => true) V V' ∧ (∀ x, x ≠ kb + 2 → x ≠ u → x ≠ u + 1 → V' x = V x) ∧ (∃ fk1 : Int32, ∃ fp1 : Int32, ∃ nx1 : Int32, ∃ tk1 : Int32, ∃ st1 : Int32, ∃ uz1 : Int32, ∃ uf1 : Nat → Int32, V' (kb + 2) = some (.inr (7, [.int (fk1), .int (fp1), .ref (kb), .ref (qb), .int (nx1), .int (tk1), .int (st1), .ref (kb + 3)])) ∧ V' (u) = some (.inr (9, [.ref (u + 1), .int (uz1)])) ∧ V' (u + 1) = some (.inl (cs 0, 8, .inl (uf1))) ∧ (hx_D (r.toInt = 0) (hx_F w (sp_let w j).1 (sp_let w j).2 fk1 fp1) ((sp_let w j).1 = 0 ∧ hx_O w (sp_let w j).2 fk fp fk1 fp1 st1 nx1 tk1 ∧ uz1.toInt = sp_sz w j ∧ ∀ k : Nat, (k : Int) < sp_sz w j → (uf1 k).toInt = w.1 (sp_s w j + 1 + k))) ∧ (r.toInt = 0 ∨ r.toInt = 1) ∧ (0 ≤ uz1.toInt ∧ uz1.toInt ≤ 8)))) 0 0 := by
  refine hp_walk (R0 := RX7) (by decide) rfl ?_ (Nat.le_of_ble_eq_true rfl)
  intro p e s m below meth c ls hx hb hr hts hown hlocks hin hml hZ hl
  have hP : hq_P cs G (fun _ => true) V V := hq_P.rf hI
  have hl : lv_has ls 2 [(0, .ref (kb + 2)), (1, .ref (u))] := hl
  have hb_fk := hq_rng fk
  have hb_fp := hq_rng fp
  have hb_nx := hq_rng nx
  have hb_tk := hq_rng tk
  have hb_st := hq_rng st
  have hb_uz := hq_rng uz
  have hf_2 := hq_rgB hI hy4 hc2
  obtain ⟨b1, b2, b3, b4⟩ := id hA
  obtain ⟨tz, tg, htz, htg, hz1, hz2, hz3⟩ := id hp0
  have hb_tz := hq_rng tz
  have hfit := hq_rgB hP.1 hy1 htg
  have hsz : sp_sz w j = sp_e w j - sp_s w j - 2 := rfl
  refine lv_aload_n hx hb dX7_takeLetters_0 rfl (lv_at hl 0 rfl) ?_
  refine hp_get (v := .int (tk)) hx hb hts hown hZ hc0 fl_X7_45 rfl dX7_takeLetters_1 ?_
  refine lv_bipush (v := 19) hx hb dX7_takeLetters_4 (by decide) ?_
  refine lv_icmp_eq (tgt := 15) hx hb dX7_takeLetters_6 (by decide) (fun c5 => ?_) (fun c5 => ?_)
  · have c5 : (tk).toInt = (19 : Int) := hq_eqi.mp c5
    have hn9 := sp_tok_let (w := w) (j := j) (by omega)
    have hn8 := sp_tok_in (w := w) (j := j) hA.1 (by omega)
    have hn7 := sp_tok (w := w) (j := j) hA.1
    refine lv_aload_n hx hb dX7_takeLetters_15 rfl (lv_at hl 1 rfl) ?_
    refine hp_callv (hp_runV (As := []) (rest := []) hx hb hml hown hts (x_clear l D cs B G V n hP.1 (u) (8) (uz) hy3 hy4 hc1  (by decide)) hZ hc1 cv_X7_177 rfl rfl ⟨Nat.le_of_ble_eq_true rfl, Nat.le_of_ble_eq_true rfl⟩ rfl hl.1 rfl (Nat.le_of_ble_eq_true rfl) dX7_takeLetters_16 ⟨(Nat.le_of_ble_eq_true rfl), (Nat.le_of_ble_eq_true rfl)⟩) hZ (fun V6 n7 _ _ hw8 hZ => ?_)
    obtain ⟨rfl, hq10, fr11, ho12⟩ := hw8
    have hP := hP.trans hq10 (fun _ h => Bool.noConfusion h)
    refine lv_aload_n hx hb dX7_takeLetters_19 rfl (lv_at hl 1 rfl) ?_
    refine lv_aload_n hx hb dX7_takeLetters_20 rfl (lv_at hl 0 rfl) ?_
    have fx13 : V6 (kb + 2) = some (.inr (7, [.int (fk), .int (fp), .ref (kb), .ref (qb), .int (nx), .int (tk), .int (st), .ref (kb + 3)])) := (fr11 (kb + 2) (hq_tne hy2 hy3 (by simp))).trans (hc0)
    refine hp_get (v := .ref (kb)) hx hb hts hown hZ fx13 fl_X7_27 rfl dX7_takeLetters_21 ?_
    refine lv_aload_n hx hb dX7_takeLetters_24 rfl (lv_at hl 0 rfl) ?_
    refine hp_get (v := .int (st)) hx hb hts hown hZ fx13 fl_X7_174 rfl dX7_takeLetters_25 ?_
    refine lv_iconst (v := 1) hx hb dX7_takeLetters_28 (by decide) ?_
    refine lv_iadd hx hb dX7_takeLetters_29 ?_
    refine lv_topi (fun y14 ey15 => ?_)
    obtain ⟨k16, hk17, b18, b19⟩ := hq_add (st) (1)
    rw [← ey15] at hk17 b18 b19
    have hk17 : (y14).toInt = (st).toInt + (1 : Int) + k16 * 4294967296 := hk17
    obtain rfl : k16 = 0 := by omega
    refine lv_aload_n hx hb dX7_takeLetters_30 rfl (lv_at hl 0 rfl) ?_
    refine hp_get (v := .int (nx)) hx hb hts hown hZ fx13 fl_X7_39 rfl dX7_takeLetters_31 ?_
    refine lv_iconst (v := 1) hx hb dX7_takeLetters_34 (by decide) ?_
    refine lv_isub hx hb dX7_takeLetters_35 ?_
    refine lv_topi (fun y20 ey21 => ?_)
    obtain ⟨k22, hk23, b24, b25⟩ := hq_sub (nx) (1)
    rw [← ey21] at hk23 b24 b25
    have hk23 : (y20).toInt = (nx).toInt - (1 : Int) + k22 * 4294967296 := hk23
    obtain rfl : k22 = 0 := by omega
    have fx26 : V6 (u + 1) = some (.inl (cs 0, 8, .inl (uf))) := (fr11 (u + 1) (hq_tne hy4 hy3 (by simp))).trans (hc2)
    have fx27 : V6 (kb) = some (.inr (9, [.ref (kb + 1), .int (tz)])) := (fr11 (kb) (hq_tne hy0 hy3 (by simp))).trans (htz)
    have fx28 : V6 (kb + 1) = some (.inl (cs 0, 4000, .inl (tg))) := (fr11 (kb + 1) (hq_tne hy1 hy3 (by simp))).trans (htg)
    have hl29 : (0 : Int32).toInt = 0 := by decide
    refine hp_calli (hp_runV (As := [.ref (kb), .int (y14), .int (y20)]) (rest := []) hx hb hml hown hts (x_addPart l D cs B G V6 n hP.1 (u) (8) (kb) (4000) (y14) (y20) (0) (uf) (tz) (tg) hy3 hy4 hy1 ho12 fx26 fx27 fx28  (by omega) (by omega) (by decide) (by decide) (by omega) (by omega) (by omega)) hZ ho12 cv_X7_178 rfl rfl ⟨Nat.le_of_ble_eq_true rfl, Nat.le_of_ble_eq_true rfl⟩ rfl hl.1 rfl (Nat.le_of_ble_eq_true rfl) dX7_takeLetters_36 ⟨(Nat.le_of_ble_eq_true rfl), (Nat.le_of_ble_eq_true rfl)⟩) hZ (fun r33 V30 n31 _ _ hw32 hZ => ?_)
    obtain ⟨rfl, hq34, fr35, z36, u37, ho38, ho39, hp40, hp41, hp42⟩ := hw32
    have b43 := hq_rng z36
    have hP := hP.trans hq34 (fun _ h => Bool.noConfusion h)
    have hf44 := hq_rgB hP.1 hy4 ho39
    have b45 := hq_rng r33
    refine lv_pop hx hb dX7_takeLetters_39 rfl ?_
    refine lv_aload_n hx hb dX7_takeLetters_40 rfl (lv_at hl 0 rfl) ?_
    have fx46 : V30 (kb + 2) = some (.inr (7, [.int (fk), .int (fp), .ref (kb), .ref (qb), .int (nx), .int (tk), .int (st), .ref (kb + 3)])) := (fr35 (kb + 2) (hq_tne hy2 hy3 (by simp)) (hq_tne hy2 hy4 (by simp))).trans (fx13)
    have pk47 := hp0.keep ((fr35 (kb) (hq_tne hy0 hy3 (by simp)) (hq_tne hy0 hy4 (by simp))).trans (fr11 (kb) (hq_tne hy0 hy3 (by simp)))) ((fr35 (kb + 1) (hq_tne hy1 hy3 (by simp)) (hq_tne hy1 hy4 (by simp))).trans (fr11 (kb + 1) (hq_tne hy1 hy3 (by simp))))
    refine hp_callv (hp_runV (As := []) (rest := []) hx hb hml hown hts (x_next l D cs B G V30 n hP.1 (kb) (qb) (w) (j) (fk) (fp) (nx) (tk) (st) hy0 hy1 hy2 fx46 pk47 hA (by omega)) hZ fx46 cv_X7_42 rfl rfl ⟨Nat.le_of_ble_eq_true rfl, Nat.le_of_ble_eq_true rfl⟩ rfl hl.1 rfl (Nat.le_of_ble_eq_true rfl) dX7_takeLetters_41 ⟨(Nat.le_of_ble_eq_true rfl), (Nat.le_of_ble_eq_true rfl)⟩) hZ (fun V48 n49 _ _ hw50 hZ => ?_)
    obtain ⟨rfl, hq52, fr53, z54, z55, z56, ho57, hp58⟩ := hw50
    have b59 := hq_rng z54
    have b60 := hq_rng z55
    have b61 := hq_rng z56
    have hP := hP.trans hq52 (fun _ h => Bool.noConfusion h)
    obtain ⟨b62, b63, b64, b65⟩ := id hp58
    refine lv_iconst (v := 1) hx hb dX7_takeLetters_44 (by decide) ?_
    have hl66 : (1 : Int32).toInt = 1 := by decide
    have fx67 : V48 (u) = some (.inr (9, [.ref (u + 1), .int (z36)])) := (fr53 (u) (hq_tne hy3 hy2 (by simp))).trans (ho38)
    have fx68 : V48 (u + 1) = some (.inl (cs 0, 8, .inl (u37))) := (fr53 (u + 1) (hq_tne hy4 hy2 (by simp))).trans (ho39)
    exact hp_zret hx hb hr rfl hlocks hZ ⟨rfl, hP, (fun x8 hne0 hne1 hne2 => (fr53 x8 hne0).trans ((fr35 x8 hne1 hne2).trans (fr11 x8 hne1))), fk, fp, z54, z55, z56, z36, u37, ho57, fx67, fx68, hx_D.r (by omega) (by unfold sp_let; (repeat (first | (rw [if_pos]; rotate_left; omega) | (rw [if_neg]; rotate_left; omega))); (try dsimp only); exact ⟨by first | rfl | omega, ⟨by omega, by omega, hp58⟩, by omega, fun k9 hk9 => by have h9 := hp41.2 k9 (by omega); rw [show (0 : Int32).toInt.toNat + k9 = k9 from Nat.zero_add k9] at h9; rw [h9, hz3 _ (by omega)]; exact congrArg w.1 (by omega)⟩), by omega, by omega⟩ dX7_takeLetters_45
  · have c5 : ¬ (tk).toInt = (19 : Int) := fun h9 => c5 (hq_eqi.mpr h9)
    refine lv_aload_n hx hb dX7_takeLetters_9 rfl (lv_at hl 0 rfl) ?_
    refine lv_iconst (v := 1) hx hb dX7_takeLetters_10 (by decide) ?_
    have hl69 : (1 : Int32).toInt = 1 := by decide
    refine hp_calli (hp_runV (As := [.int (1)]) (rest := []) hx hb hml hown hts (x_refuse l D cs B G V n hP.1 (kb) (qb) (1) (fk) (fp) (nx) (tk) (st) hy2 hc0  ) hZ hc0 cv_X7_65 rfl rfl ⟨Nat.le_of_ble_eq_true rfl, Nat.le_of_ble_eq_true rfl⟩ rfl hl.1 rfl (Nat.le_of_ble_eq_true rfl) dX7_takeLetters_11 ⟨(Nat.le_of_ble_eq_true rfl), (Nat.le_of_ble_eq_true rfl)⟩) hZ (fun r73 V70 n71 _ _ hw72 hZ => ?_)
    obtain ⟨rfl, hq74, fr75, ho76, hp77⟩ := hw72
    have hP := hP.trans hq74 (fun _ h => Bool.noConfusion h)
    have b78 := hq_rng r73
    have hl79 : (1 : Int32).toInt = 1 := by decide
    have fx80 : V70 (u) = some (.inr (9, [.ref (u + 1), .int (uz)])) := (fr75 (u) (hq_tne hy3 hy2 (by simp))).trans (hc1)
    have fx81 : V70 (u + 1) = some (.inl (cs 0, 8, .inl (uf))) := (fr75 (u + 1) (hq_tne hy4 hy2 (by simp))).trans (hc2)
    exact hp_zret hx hb hr (hq_nzi (by omega) (by omega)) hlocks hZ ⟨rfl, hP, (fun x8 hne0 hne1 hne2 => fr75 x8 hne0), 1, st, nx, tk, st, uz, uf, ho76, fx80, fx81, hx_D.l (by omega) (by unfold sp_let; (repeat (first | (rw [if_pos]; rotate_left; omega) | (rw [if_neg]; rotate_left; omega))); (try dsimp only); first | exact hA | exact ⟨by omega, by omega, by omega⟩), by omega, by omega⟩ dX7_takeLetters_14

set_option maxHeartbeats 4000000 in
set_option maxRecDepth 100000 in
theorem x_isName (l : Launch) (D : va_G) (cs : Nat → ClassId) (B : Nat) (G : hq_G) (V : hp_V) (n : Nat) (hI : hq_I cs G V) (kb : Nat) (qb : Nat) (w : sp_W) (j : Nat) (fk : Int32) (fp : Int32) (nx : Int32) (tk : Int32) (st : Int32) (nz : Int32) (nf : Nat → Int32) (hy0 : G (kb) = some (0, 4000, 0, 0)) (hy1 : G (kb + 1) = some (1, 4000, 0, 0)) (hy2 : G (kb + 2) = some (10, 0, 0, 0)) (hy3 : G (kb + 3) = some (0, 12, 0, 0)) (hy4 : G (kb + 4) = some (1, 12, 0, 0)) (hc0 : V (kb + 2) = some (.inr (7, [.int (fk), .int (fp), .ref (kb), .ref (qb), .int (nx), .int (tk), .int (st), .ref (kb + 3)]))) (hc1 : V (kb + 3) = some (.inr (9, [.ref (kb + 3 + 1), .int (nz)]))) (hc2 : V (kb + 4) = some (.inl (cs 0, 12, .inl (nf)))) (hp0 : hx_TP cs V kb w) (hA : hx_A w j st nx tk) : hp_M l yX7_isName cX7_isName 1 (some .boolean) ({ frames := 2, cells := 0, slots := 0, locals := 45 }) D cs B V n [.ref (kb + 2)] (hp_QI D cs B (fun r V' n' => n = n' ∧ hq_P cs G (fun _ => true) V V' ∧ (∀ x, x ≠ kb + 2 → x ≠ kb + 3 → x ≠ kb + 4 → V' x = V x) ∧ (∃ fk1 : Int32, ∃ fp1 : Int32, ∃ nz1 : Int32, ∃ nf1 : Nat → Int32, V' (kb + 2) = some (.inr (7, [.int (fk1), .int (fp1), .ref (kb), .ref (qb), .int (nx), .int (tk), .int (st), .ref (kb + 3)])) ∧ V' (kb + 3) = some (.inr (9, [.ref (kb + 3 + 1), .int (nz1)])) ∧ V' (kb + 4) = some (.inl (cs 0, 12, .inl (nf1))) ∧ (hx_D (r.toInt = 0) (¬ sp_k w j = 17 ∧ fk1.toInt = 1 ∧ fp1.toInt = sp_s w j) (sp_k w j = 17 ∧ (fk1.toInt = fk.toInt ∧ fp1.toInt = fp.toInt) ∧ hx_N cs V' (kb + 3) w j)) ∧ (r.toInt = 0 ∨ r.toInt = 1)))) 0 0 := by
  refine hp_walk (R0 := RX7) (by decide) rfl ?_ (Nat.le_of_ble_eq_true rfl)
  intro p e s m below meth c ls hx hb hr hts hown hlocks hin hml hZ hl
  have hP : hq_P cs G (fun _ => true) V V := hq_P.rf hI
  have hl : lv_has ls 1 [(0, .ref (kb + 2))] := hl
  have hb_fk := hq_rng fk
  have hb_fp := hq_rng fp
  have hb_nx := hq_rng nx
  have hb_tk := hq_rng tk
  have hb_st := hq_rng st
  have hb_nz := hq_rng nz
  have hf_2 := hq_rgB hI hy4 hc2
  obtain ⟨b1, b2, b3, b4⟩ := id hA
  obtain ⟨tz, tg, htz, htg, hz1, hz2, hz3⟩ := id hp0
  have hb_tz := hq_rng tz
  have hfit := hq_rgB hP.1 hy1 htg
  refine lv_aload_n hx hb dX7_isName_0 rfl (lv_at hl 0 rfl) ?_
  refine hp_get (v := .int (tk)) hx hb hts hown hZ hc0 fl_X7_45 rfl dX7_isName_1 ?_
  refine lv_bipush (v := 17) hx hb dX7_isName_4 (by decide) ?_
  refine lv_icmp_eq (tgt := 15) hx hb dX7_isName_6 (by decide) (fun c5 => ?_) (fun c5 => ?_)
  · have c5 : (tk).toInt = (17 : Int) := hq_eqi.mp c5
    have hn9 := sp_tok_word (w := w) (j := j) hA.1 (by omega)
    have hn8 := sp_tok_in (w := w) (j := j) hA.1 (by omega)
    have hn7 := sp_tok (w := w) (j := j) hA.1
    refine lv_aload_n hx hb dX7_isName_15 rfl (lv_at hl 0 rfl) ?_
    refine hp_get (v := .ref (kb + 3)) hx hb hts hown hZ hc0 fl_X7_23 rfl dX7_isName_16 ?_
    refine hp_callv (hp_runV (As := []) (rest := []) hx hb hml hown hts (x_clear l D cs B G V n hP.1 (kb + 3) (12) (nz) hy3 hy4 hc1  (by decide)) hZ hc1 cv_X7_177 rfl rfl ⟨Nat.le_of_ble_eq_true rfl, Nat.le_of_ble_eq_true rfl⟩ rfl hl.1 rfl (Nat.le_of_ble_eq_true rfl) dX7_isName_19 ⟨(Nat.le_of_ble_eq_true rfl), (Nat.le_of_ble_eq_true rfl)⟩) hZ (fun V6 n7 _ _ hw8 hZ => ?_)
    obtain ⟨rfl, hq10, fr11, ho12⟩ := hw8
    have hP := hP.trans hq10 (fun _ h => Bool.noConfusion h)
    refine lv_aload_n hx hb dX7_isName_22 rfl (lv_at hl 0 rfl) ?_
    have fx13 : V6 (kb + 2) = some (.inr (7, [.int (fk), .int (fp), .ref (kb), .ref (qb), .int (nx), .int (tk), .int (st), .ref (kb + 3)])) := (fr11 (kb + 2) (hq_tne hy2 hy3 (by simp))).trans (hc0)
    refine hp_get (v := .ref (kb + 3)) hx hb hts hown hZ fx13 fl_X7_23 rfl dX7_isName_23 ?_
    refine lv_aload_n hx hb dX7_isName_26 rfl (lv_at hl 0 rfl) ?_
    refine hp_get (v := .ref (kb)) hx hb hts hown hZ fx13 fl_X7_27 rfl dX7_isName_27 ?_
    refine lv_aload_n hx hb dX7_isName_30 rfl (lv_at hl 0 rfl) ?_
    refine hp_get (v := .int (st)) hx hb hts hown hZ fx13 fl_X7_174 rfl dX7_isName_31 ?_
    refine lv_aload_n hx hb dX7_isName_34 rfl (lv_at hl 0 rfl) ?_
    refine hp_get (v := .int (nx)) hx hb hts hown hZ fx13 fl_X7_39 rfl dX7_isName_35 ?_
    have fx14 : V6 (kb + 4) = some (.inl (cs 0, 12, .inl (nf))) := (fr11 (kb + 4) (hq_tne hy4 hy3 (by simp))).trans (hc2)
    have fx15 : V6 (kb) = some (.inr (9, [.ref (kb + 1), .int (tz)])) := (fr11 (kb) (hq_tne hy0 hy3 (by simp))).trans (htz)
    have fx16 : V6 (kb + 1) = some (.inl (cs 0, 4000, .inl (tg))) := (fr11 (kb + 1) (hq_tne hy1 hy3 (by simp))).trans (htg)
    have hl17 : (0 : Int32).toInt = 0 := by decide
    refine hp_calli (hp_runV (As := [.ref (kb), .int (st), .int (nx)]) (rest := []) hx hb hml hown hts (x_addPart l D cs B G V6 n hP.1 (kb + 3) (12) (kb) (4000) (st) (nx) (0) (nf) (tz) (tg) hy3 hy4 hy1 ho12 fx14 fx15 fx16  (by omega) (by omega) (by decide) (by decide) (by omega) (by omega) (by omega)) hZ ho12 cv_X7_178 rfl rfl ⟨Nat.le_of_ble_eq_true rfl, Nat.le_of_ble_eq_true rfl⟩ rfl hl.1 rfl (Nat.le_of_ble_eq_true rfl) dX7_isName_38 ⟨(Nat.le_of_ble_eq_true rfl), (Nat.le_of_ble_eq_true rfl)⟩) hZ (fun r21 V18 n19 _ _ hw20 hZ => ?_)
    obtain ⟨rfl, hq22, fr23, z24, u25, ho26, ho27, hp28, hp29, hp30⟩ := hw20
    have b31 := hq_rng z24
    have hP := hP.trans hq22 (fun _ h => Bool.noConfusion h)
    have hf32 := hq_rgB hP.1 hy4 ho27
    have b33 := hq_rng r21
    have fx34 : V18 (kb + 2) = some (.inr (7, [.int (fk), .int (fp), .ref (kb), .ref (qb), .int (nx), .int (tk), .int (st), .ref (kb + 3)])) := (fr23 (kb + 2) (hq_tne hy2 hy3 (by simp)) (hq_tne hy2 hy4 (by simp))).trans (fx13)
    exact hp_zret hx hb hr (hq_nzi (by omega) (by omega)) hlocks hZ ⟨rfl, hP, (fun x8 hne0 hne1 hne2 => (fr23 x8 hne1 hne2).trans (fr11 x8 hne1)), fk, fp, z24, u25, fx34, ho26, ho27, hx_D.r (by omega) ⟨by omega, ⟨by omega, by omega⟩, ⟨_, _, ho26, ho27, by omega, by omega, fun k9 hk9 => by have h9 := hp29.2 k9 (by omega); rw [show (0 : Int32).toInt.toNat + k9 = k9 from Nat.zero_add k9] at h9; rw [h9, hz3 _ (by omega)]; exact congrArg w.1 (by omega)⟩⟩, by omega⟩ dX7_isName_41
  · have c5 : ¬ (tk).toInt = (17 : Int) := fun h9 => c5 (hq_eqi.mpr h9)
    refine lv_aload_n hx hb dX7_isName_9 rfl (lv_at hl 0 rfl) ?_
    refine lv_iconst (v := 1) hx hb dX7_isName_10 (by decide) ?_
    have hl35 : (1 : Int32).toInt = 1 := by decide
    refine hp_calli (hp_runV (As := [.int (1)]) (rest := []) hx hb hml hown hts (x_refuse l D cs B G V n hP.1 (kb) (qb) (1) (fk) (fp) (nx) (tk) (st) hy2 hc0  ) hZ hc0 cv_X7_65 rfl rfl ⟨Nat.le_of_ble_eq_true rfl, Nat.le_of_ble_eq_true rfl⟩ rfl hl.1 rfl (Nat.le_of_ble_eq_true rfl) dX7_isName_11 ⟨(Nat.le_of_ble_eq_true rfl), (Nat.le_of_ble_eq_true rfl)⟩) hZ (fun r39 V36 n37 _ _ hw38 hZ => ?_)
    obtain ⟨rfl, hq40, fr41, ho42, hp43⟩ := hw38
    have hP := hP.trans hq40 (fun _ h => Bool.noConfusion h)
    have b44 := hq_rng r39
    have fx45 : V36 (kb + 3) = some (.inr (9, [.ref (kb + 3 + 1), .int (nz)])) := (fr41 (kb + 3) (hq_tne hy3 hy2 (by simp))).trans (hc1)
    have fx46 : V36 (kb + 4) = some (.inl (cs 0, 12, .inl (nf))) := (fr41 (kb + 4) (hq_tne hy4 hy2 (by simp))).trans (hc2)
    have hl47 : (1 : Int32).toInt = 1 := by decide
    exact hp_zret hx hb hr (hq_nzi (by omega) (by omega)) hlocks hZ ⟨rfl, hP, (fun x8 hne0 hne1 hne2 => fr41 x8 hne0), 1, st, nz, nf, ho42, fx45, fx46, hx_D.l (by omega) ⟨by omega, by omega, by omega⟩, by omega⟩ dX7_isName_14

set_option maxHeartbeats 4000000 in
set_option maxRecDepth 100000 in
theorem x_indexOf (l : Launch) (D : va_G) (cs : Nat → ClassId) (B : Nat) (G : hq_G) (V : hp_V) (n : Nat) (hI : hq_I cs G V) (nm : Nat) (u : Nat) (ua : Nat) (N : Nat) (w : sp_W) (j : Nat) (L : List Nat) (k : Int32) (rg : Nat → Option Nat) (hc0 : V (u) = some (.inl (cs 7, N, .inr (.inr (.inr (.inr (rg))))))) (hrg : ∀ i, i < N → rg i = some (ua + 2 * i)) (hNL : hx_NL cs V ua N w L) (hN : hx_N cs V nm w j) (hk : k.toInt = (L.length : Int)) (hNb : N ≤ 100) : hp_M l yX0_indexOf cX0_indexOf 4 (some .int) ({ frames := 3, cells := 0, slots := 0, locals := 65 }) D cs B V n [.ref (nm), .ref (u), .int (k)] (hp_QI D cs B (fun r V' n' => n = n' ∧ V = V' ∧ (r.toInt = sp_fi w j L 0))) 0 0 := by
  refine hp_walk (R0 := RX0) (by decide) rfl ?_ (Nat.le_of_ble_eq_true rfl)
  intro p e s m below meth c ls hx hb hr hts hown hlocks hin hml hZ hl
  have hP : hq_I cs G V := hI
  have hl : lv_has ls 4 [(0, .ref (nm)), (1, .ref (u)), (2, .int (k))] := hl
  have hb_k := hq_rng k
  obtain ⟨mz, mf, hm1, hm2, hm3, hm4, hm5⟩ := hN
  have hlen := hNL.1
  refine lv_iconst (v := 0) hx hb dX0_indexOf_0 (by decide) ?_
  refine lv_istore_n (lv' := [(3, .int (0)), (0, .ref (nm)), (1, .ref (u)), (2, .int (k))]) hx hb dX0_indexOf_1 rfl hl (by decide) rfl (fun ls hl => ?_)
  have hl1 : (0 : Int32).toInt = 0 := by decide
  suffices lp2 : ∀ (k9 : Nat) (H9 : Heap) (locs9 : List Loc) (ls : Array Slot) (i : Int32), (200 - i.toInt).toNat = k9 → hp_Z D cs B s V H9 n locs9 → hq_I cs G V → 0 ≤ i.toInt → i.toInt ≤ L.length → (sp_fi w j (L.drop i.toNatClampNeg) i.toInt = sp_fi w j L 0) → lv_has ls 4 [(3, .int (i)), (0, .ref (nm)), (1, .ref (u)), (2, .int (k))] → W p l e ({ frames := 3, cells := 0, slots := 0, locals := 65 }) s m ([.ref (nm), .ref (u), .int (k)] : List Value).toArray below meth c H9 locs9 0 0 (MQ below (hp_QI D cs B (fun r V' n' => n = n' ∧ V = V' ∧ (r.toInt = sp_fi w j L 0))) ([.ref (nm), .ref (u), .int (k)] : List Value).toArray s 0 0 (hp_F B)) (F0 m 2 ls []) from lp2 _ _ _ ls (0) rfl hZ hP (by omega) (by omega) (rfl) (lv_sub hl [0, 1, 2, 3] rfl)
  intro k9
  induction k9 using Nat.strongRecOn with
  | _ k9 ih2 =>
    intro H9 locs9 ls i   hk2 hZ hP    hv2 hv3 hfi hl
    have hb_i := hq_rng i
    refine lv_iload_n hx hb dX0_indexOf_2 rfl (lv_at hl 0 rfl) ?_
    refine lv_iload_n hx hb dX0_indexOf_3 rfl (lv_at hl 3 rfl) ?_
    refine lv_icmp_ge (tgt := 25) hx hb dX0_indexOf_4 (by decide) (fun c4 => ?_) (fun c4 => ?_)
    · have c4 : (k).toInt ≤ (i).toInt := hq_lei.mp c4
      refine lv_iconst (v := -1) hx hb dX0_indexOf_25 (by decide) ?_
      have hl5 : (-1 : Int32).toInt = -1 := by decide
      exact hp_iret hx hb hr hlocks hZ ⟨rfl, rfl, by rw [← hfi, sp_fi_out (by have h8 := (hq_nn (z := i) (by omega)).1; omega)]; omega⟩ dX0_indexOf_26
    · have c4 : ¬ (k).toInt ≤ (i).toInt := fun h9 => c4 (hq_lei.mpr h9)
      refine lv_aload_n hx hb dX0_indexOf_7 rfl (lv_at hl 2 rfl) ?_
      refine lv_iload_n hx hb dX0_indexOf_8 rfl (lv_at hl 0 rfl) ?_
      obtain ⟨ta, hta⟩ : ∃ ta, ta = ua + 2 * (i).toNatClampNeg := ⟨_, rfl⟩
      have hii : (i.toNatClampNeg : Int) = i.toInt := (hq_nn (by omega)).1.symm
      have hta1 : rg (i).toNatClampNeg = some ta := by rw [hta]; exact hrg _ (by omega)
      obtain ⟨t9, ht9⟩ : ∃ t, L[i.toNatClampNeg]? = some t := ⟨_, List.getElem?_eq_getElem (by omega)⟩
      obtain ⟨tz, tf, ht1, ht2, ht3, ht4, ht5⟩ := (show hx_N cs V ta w t9 by rw [hta]; exact hNL.2 _ _ ht9)
      refine hp_aald (v := .ref (ta)) hx hb hZ 7 hc0 rfl (hq_in (by omega) (by omega)) (by rw [hta1]; rfl) dX0_indexOf_9 ?_
      refine lv_aload_n hx hb dX0_indexOf_10 rfl (lv_at hl 1 rfl) ?_
      refine hp_calli (hp_runV (As := [.ref (nm)]) (rest := []) hx hb hml hown hts (x_same l D cs B G V n hP (ta) (12) (nm) (12) (tz) (tf) (mz) (mf)  ht1 ht2 hm1 hm2  (by omega) (by omega) (by decide) (by decide)) hZ ht1 cv_X0_44 rfl rfl ⟨Nat.le_of_ble_eq_true rfl, Nat.le_of_ble_eq_true rfl⟩ rfl hl.1 rfl (Nat.le_of_ble_eq_true rfl) dX0_indexOf_11 ⟨(Nat.le_of_ble_eq_true rfl), (Nat.le_of_ble_eq_true rfl)⟩) hZ (fun r9 V6 n7 _ _ hw8 hZ => ?_)
      obtain ⟨rfl, rfl, hp12⟩ := hw8
      have b13 := hq_rng r9
      refine lv_if_eq (tgt := 19) hx hb dX0_indexOf_14 (by decide) (fun c14 => ?_) (fun c14 => ?_)
      · have c14 : (r9).toInt = (0 : Int) := hq_eqi.mp c14
        have hno : ¬ sp_nm w t9 = sp_nm w j := fun h9 => by have h8 := hx_D.neg hp12 (by omega); exact h8.2 ((hx_nm (by omega) (by omega) ht4 hm4 ht5 hm5).mpr h9)
        obtain ⟨y15, ey16⟩ : ∃ y : Int32, y = i + (1) := ⟨_, rfl⟩
        obtain ⟨k17, hk18, b19, b20⟩ := hq_add (i) (1)
        rw [← ey16] at hk18 b19 b20
        have hk18 : (y15).toInt = (i).toInt + (1) + k17 * 4294967296 := hk18
        obtain rfl : k17 = 0 := by omega
        refine lv_iinc (v := y15) (lv' := [(3, .int (y15)), (0, .ref (nm)), (1, .ref (u)), (2, .int (k))]) hx hb dX0_indexOf_19 hl (k := 0) rfl (by rw [ey16]; rfl) (by decide) rfl (fun ls hl => ?_)
        refine lv_goto (tgt := 2) hx hb dX0_indexOf_22 (by decide) ?_
        exact ih2 _ (by omega) _ _ ls (y15) rfl hZ hP (by omega) (by omega) (by rw [← hfi, sp_fi_go ht9, if_neg hno, show (y15).toNatClampNeg = i.toNatClampNeg + 1 from (by have h8 := (hq_nn (z := y15) (by omega)).1; omega), show (y15).toInt = i.toInt + 1 by omega]) (lv_sub hl [0, 1, 2, 3] rfl)
      · have c14 : ¬ (r9).toInt = (0 : Int) := fun h9 => c14 (hq_eqi.mpr h9)
        have hyes : sp_nm w t9 = sp_nm w j := (hx_nm (by omega) (by omega) ht4 hm4 ht5 hm5).mp (hx_D.pos hp12 (by rcases Classical.em ((r9).toInt = 1) with h9 | h9; exact h9; exact absurd (hx_D.neg hp12 h9).1 (by omega)))
        refine lv_iload_n hx hb dX0_indexOf_17 rfl (lv_at hl 0 rfl) ?_
        exact hp_iret hx hb hr hlocks hZ ⟨rfl, rfl, by rw [← hfi, sp_fi_go ht9, if_pos hyes]⟩ dX0_indexOf_18

set_option maxHeartbeats 4000000 in
set_option maxRecDepth 100000 in
theorem x_takeName (l : Launch) (D : va_G) (cs : Nat → ClassId) (B : Nat) (G : hq_G) (V : hp_V) (n : Nat) (hI : hq_I cs G V) (kb : Nat) (qb : Nat) (w : sp_W) (j : Nat) (u : Nat) (ua : Nat) (N : Nat) (L : List Nat) (k : Int32) (rg : Nat → Option Nat) (fk : Int32) (fp : Int32) (nx : Int32) (tk : Int32) (st : Int32) (nz : Int32) (nf : Nat → Int32) (hy0 : G (kb) = some (0, 4000, 0, 0)) (hy1 : G (kb + 1) = some (1, 4000, 0, 0)) (hy2 : G (kb + 2) = some (10, 0, 0, 0)) (hy3 : G (kb + 3) = some (0, 12, 0, 0)) (hy4 : G (kb + 4) = some (1, 12, 0, 0)) (hc0 : V (kb + 2) = some (.inr (7, [.int (fk), .int (fp), .ref (kb), .ref (qb), .int (nx), .int (tk), .int (st), .ref (kb + 3)]))) (hc1 : V (kb + 3) = some (.inr (9, [.ref (kb + 3 + 1), .int (nz)]))) (hc2 : V (kb + 4) = some (.inl (cs 0, 12, .inl (nf)))) (hc3 : V (u) = some (.inl (cs 7, N, .inr (.inr (.inr (.inr (rg))))))) (hp0 : hx_TP cs V kb w) (hA : hx_A w j st nx tk) (hrg : ∀ i, i < N → rg i = some (ua + 2 * i)) (hNL : hx_NL cs V ua N w L) (hk : k.toInt = (L.length : Int)) (hNb : N ≤ 100) (hua : kb + 88 ≤ ua ∧ kb + 88 ≤ u) : hp_M l yX7_takeName cX7_takeName 4 (some .int) ({ frames := 7, cells := 0, slots := 0, locals := 152 }) D cs B V n [.ref (kb + 2), .ref (u), .int (k)] (hp_QI D cs B (fun r V' n' => n = n' ∧ hq_P cs G (fun _ => true) V V' ∧ (∀ x, x ≠ kb + 2 → x ≠ kb + 3 → x ≠ kb + 4 → V' x = V x) ∧ (∃ fk1 : Int32, ∃ fp1 : Int32, ∃ nx1 : Int32, ∃ tk1 : Int32, ∃ st1 : Int32, ∃ nz1 : Int32, ∃ nf1 : Nat → Int32, V' (kb + 2) = some (.inr (7, [.int (fk1), .int (fp1), .ref (kb), .ref (qb), .int (nx1), .int (tk1), .int (st1), .ref (kb + 3)])) ∧ V' (kb + 3) = some (.inr (9, [.ref (kb + 3 + 1), .int (nz1)])) ∧ V' (kb + 4) = some (.inl (cs 0, 12, .inl (nf1))) ∧ (hx_D (r.toInt = -1) (hx_F w (sp_old w L j).1 (sp_old w L j).2.1 fk1 fp1) ((sp_old w L j).1 = 0 ∧ hx_O w (sp_old w L j).2.1 fk fp fk1 fp1 st1 nx1 tk1 ∧ r.toInt = (sp_old w L j).2.2)) ∧ (-1 ≤ r.toInt ∧ r.toInt < N)))) 0 0 := by
  refine hp_walk (R0 := RX7) (by decide) rfl ?_ (Nat.le_of_ble_eq_true rfl)
  intro p e s m below meth c ls hx hb hr hts hown hlocks hin hml hZ hl
  have hP : hq_P cs G (fun _ => true) V V := hq_P.rf hI
  have hl : lv_has ls 4 [(0, .ref (kb + 2)), (1, .ref (u)), (2, .int (k))] := hl
  have hb_k := hq_rng k
  have hb_fk := hq_rng fk
  have hb_fp := hq_rng fp
  have hb_nx := hq_rng nx
  have hb_tk := hq_rng tk
  have hb_st := hq_rng st
  have hb_nz := hq_rng nz
  have hf_2 := hq_rgB hI hy4 hc2
  obtain ⟨b1, b2, b3, b4⟩ := id hA
  have hlen := hNL.1
  refine lv_aload_n hx hb dX7_takeName_0 rfl (lv_at hl 0 rfl) ?_
  refine hp_calli (hp_runV (As := []) (rest := []) hx hb hml hown hts (x_isName l D cs B G V n hP.1 (kb) (qb) (w) (j) (fk) (fp) (nx) (tk) (st) (nz) (nf) hy0 hy1 hy2 hy3 hy4 hc0 hc1 hc2 hp0 hA) hZ hc0 cv_X7_185 rfl rfl ⟨Nat.le_of_ble_eq_true rfl, Nat.le_of_ble_eq_true rfl⟩ rfl hl.1 rfl (Nat.le_of_ble_eq_true rfl) dX7_takeName_1 ⟨(Nat.le_of_ble_eq_true rfl), (Nat.le_of_ble_eq_true rfl)⟩) hZ (fun r8 V5 n6 _ _ hw7 hZ => ?_)
  obtain ⟨rfl, hq9, fr10, z11, z12, z13, u14, ho15, ho16, ho17, hp18, hp19⟩ := hw7
  have b20 := hq_rng z11
  have b21 := hq_rng z12
  have b22 := hq_rng z13
  have hP := hP.trans hq9 (fun _ h => Bool.noConfusion h)
  have hf23 := hq_rgB hP.1 hy4 ho17
  have b24 := hq_rng r8
  refine lv_if_ne (tgt := 9) hx hb dX7_takeName_4 (by decide) (fun c25 => ?_) (fun c25 => ?_)
  · have c25 : ¬ (r8).toInt = (0 : Int) := fun h9 => c25 (hq_eqi.mpr h9)
    obtain ⟨b26, ⟨b27, b28⟩, hN9⟩ := hx_D.neg hp18 (by omega)
    refine lv_aload_n hx hb dX7_takeName_9 rfl (lv_at hl 0 rfl) ?_
    refine hp_get (v := .ref (kb + 3)) hx hb hts hown hZ ho15 fl_X7_23 rfl dX7_takeName_10 ?_
    refine lv_aload_n hx hb dX7_takeName_13 rfl (lv_at hl 1 rfl) ?_
    refine lv_iload_n hx hb dX7_takeName_14 rfl (lv_at hl 2 rfl) ?_
    have fx29 : V5 (u) = some (.inl (cs 7, N, .inr (.inr (.inr (.inr (rg)))))) := (fr10 (u) (by omega) (by omega) (by omega)).trans (hc3)
    have pk30 := hNL.keep (fun x7 (hx7 : ua ≤ x7 ∧ x7 < ua + 2 * L.length) => fr10 x7 (by omega) (by omega) (by omega))
    refine hp_calli (hp_runS (As := [.ref (kb + 3), .ref (u), .int (k)]) (rest := []) hx hb hml hown hts (x_indexOf l D cs B G V5 n hP.1 (kb + 3) (u) (ua) (N) (w) (j) (L) (k) (rg)  fx29  hrg pk30 hN9 hk hNb) hZ cv_X7_188 rfl rfl ⟨Nat.le_of_ble_eq_true rfl, Nat.le_of_ble_eq_true rfl⟩ rfl hl.1 rfl (Nat.le_of_ble_eq_true rfl) dX7_takeName_15 ⟨(Nat.le_of_ble_eq_true rfl), (Nat.le_of_ble_eq_true rfl)⟩) hZ (fun r34 V31 n32 _ _ hw33 hZ => ?_)
    obtain ⟨rfl, rfl, hp37⟩ := hw33
    have b38 := hq_rng r34
    have hfr := sp_fi_rg w j L 0 (by decide)
    refine lv_istore_n (lv' := [(3, .int (r34)), (0, .ref (kb + 2)), (1, .ref (u)), (2, .int (k))]) hx hb dX7_takeName_18 rfl hl (by decide) rfl (fun ls hl => ?_)
    refine lv_iload_n hx hb dX7_takeName_19 rfl (lv_at hl 0 rfl) ?_
    refine lv_iconst (v := -1) hx hb dX7_takeName_20 (by decide) ?_
    refine lv_icmp_ne (tgt := 33) hx hb dX7_takeName_21 (by decide) (fun c39 => ?_) (fun c39 => ?_)
    · have c39 : ¬ (r34).toInt = (-1 : Int) := fun h9 => c39 (hq_eqi.mpr h9)
      refine lv_aload_n hx hb dX7_takeName_33 rfl (lv_at hl 1 rfl) ?_
      have pk40 := hp0.keep (fr10 (kb) (hq_tne hy0 hy2 (by simp)) (hq_tne hy0 hy3 (by simp)) (hq_tne hy0 hy4 (by simp))) (fr10 (kb + 1) (hq_tne hy1 hy2 (by simp)) (hq_tne hy1 hy3 (by simp)) (hq_tne hy1 hy4 (by simp)))
      refine hp_callv (hp_runV (As := []) (rest := []) hx hb hml hown hts (x_next l D cs B G V5 n hP.1 (kb) (qb) (w) (j) (z11) (z12) (nx) (tk) (st) hy0 hy1 hy2 ho15 pk40 hA (by omega)) hZ ho15 cv_X7_42 rfl rfl ⟨Nat.le_of_ble_eq_true rfl, Nat.le_of_ble_eq_true rfl⟩ rfl hl.1 rfl (Nat.le_of_ble_eq_true rfl) dX7_takeName_34 ⟨(Nat.le_of_ble_eq_true rfl), (Nat.le_of_ble_eq_true rfl)⟩) hZ (fun V41 n42 _ _ hw43 hZ => ?_)
      obtain ⟨rfl, hq45, fr46, z47, z48, z49, ho50, hp51⟩ := hw43
      have b52 := hq_rng z47
      have b53 := hq_rng z48
      have b54 := hq_rng z49
      have hP := hP.trans hq45 (fun _ h => Bool.noConfusion h)
      obtain ⟨b55, b56, b57, b58⟩ := id hp51
      refine lv_iload_n hx hb dX7_takeName_37 rfl (lv_at hl 0 rfl) ?_
      have fx59 : V41 (kb + 3) = some (.inr (9, [.ref (kb + 4), .int (z13)])) := (fr46 (kb + 3) (hq_tne hy3 hy2 (by simp))).trans (ho16)
      have fx60 : V41 (kb + 4) = some (.inl (cs 0, 12, .inl (u14))) := (fr46 (kb + 4) (hq_tne hy4 hy2 (by simp))).trans (ho17)
      exact hp_iret hx hb hr hlocks hZ ⟨rfl, hP, (fun x8 hne0 hne1 hne2 => (fr46 x8 hne0).trans (fr10 x8 hne0 hne1 hne2)), z11, z12, z47, z48, z49, z13, u14, ho50, fx59, fx60, hx_D.r (by omega) (by unfold sp_old; (repeat (first | (rw [if_pos]; rotate_left; omega) | (rw [if_neg]; rotate_left; omega))); (try dsimp only); exact ⟨by first | rfl | omega, ⟨by omega, by omega, hp51⟩, by omega⟩), by omega⟩ dX7_takeName_38
    · have c39 : (r34).toInt = (-1 : Int) := hq_eqi.mp c39
      refine lv_aload_n hx hb dX7_takeName_24 rfl (lv_at hl 1 rfl) ?_
      refine lv_iconst (v := 2) hx hb dX7_takeName_25 (by decide) ?_
      have hl61 : (2 : Int32).toInt = 2 := by decide
      refine hp_calli (hp_runV (As := [.int (2)]) (rest := []) hx hb hml hown hts (x_refuse l D cs B G V5 n hP.1 (kb) (qb) (2) (z11) (z12) (nx) (tk) (st) hy2 ho15  ) hZ ho15 cv_X7_65 rfl rfl ⟨Nat.le_of_ble_eq_true rfl, Nat.le_of_ble_eq_true rfl⟩ rfl hl.1 rfl (Nat.le_of_ble_eq_true rfl) dX7_takeName_26 ⟨(Nat.le_of_ble_eq_true rfl), (Nat.le_of_ble_eq_true rfl)⟩) hZ (fun r65 V62 n63 _ _ hw64 hZ => ?_)
      obtain ⟨rfl, hq66, fr67, ho68, hp69⟩ := hw64
      have hP := hP.trans hq66 (fun _ h => Bool.noConfusion h)
      have b70 := hq_rng r65
      refine lv_pop hx hb dX7_takeName_29 rfl ?_
      refine lv_goto (tgt := 37) hx hb dX7_takeName_30 (by decide) ?_
      refine lv_iload_n hx hb dX7_takeName_37 rfl (lv_at hl 0 rfl) ?_
      have hl71 : (2 : Int32).toInt = 2 := by decide
      have fx72 : V62 (kb + 3) = some (.inr (9, [.ref (kb + 4), .int (z13)])) := (fr67 (kb + 3) (hq_tne hy3 hy2 (by simp))).trans (ho16)
      have fx73 : V62 (kb + 4) = some (.inl (cs 0, 12, .inl (u14))) := (fr67 (kb + 4) (hq_tne hy4 hy2 (by simp))).trans (ho17)
      exact hp_iret hx hb hr hlocks hZ ⟨rfl, hP, (fun x8 hne0 hne1 hne2 => (fr67 x8 hne0).trans (fr10 x8 hne0 hne1 hne2)), 2, st, nx, tk, st, z13, u14, ho68, fx72, fx73, hx_D.l (by omega) (by unfold sp_old; (repeat (first | (rw [if_pos]; rotate_left; omega) | (rw [if_neg]; rotate_left; omega))); (try dsimp only); first | exact hA | exact ⟨by omega, by omega, by omega⟩), by omega⟩ dX7_takeName_38
  · have c25 : (r8).toInt = (0 : Int) := hq_eqi.mp c25
    obtain ⟨b74, b75, b76⟩ := hx_D.pos hp18 (by omega)
    refine lv_iconst (v := -1) hx hb dX7_takeName_7 (by decide) ?_
    have hl77 : (-1 : Int32).toInt = -1 := by decide
    exact hp_iret hx hb hr hlocks hZ ⟨rfl, hP, (fun x8 hne0 hne1 hne2 => fr10 x8 hne0 hne1 hne2), z11, z12, nx, tk, st, z13, u14, ho15, ho16, ho17, hx_D.l (by omega) (by unfold sp_old; (repeat (first | (rw [if_pos]; rotate_left; omega) | (rw [if_neg]; rotate_left; omega))); (try dsimp only); first | exact hA | exact ⟨by omega, by omega, by omega⟩), by omega⟩ dX7_takeName_8

set_option maxHeartbeats 4000000 in
set_option maxRecDepth 100000 in
theorem x_isNewName (l : Launch) (D : va_G) (cs : Nat → ClassId) (B : Nat) (G : hq_G) (V : hp_V) (n : Nat) (hI : hq_I cs G V) (kb : Nat) (qb : Nat) (w : sp_W) (j : Nat) (u : Nat) (ua : Nat) (N : Nat) (L : List Nat) (k : Int32) (rg : Nat → Option Nat) (fk : Int32) (fp : Int32) (nx : Int32) (tk : Int32) (st : Int32) (nz : Int32) (nf : Nat → Int32) (hy0 : G (kb) = some (0, 4000, 0, 0)) (hy1 : G (kb + 1) = some (1, 4000, 0, 0)) (hy2 : G (kb + 2) = some (10, 0, 0, 0)) (hy3 : G (kb + 3) = some (0, 12, 0, 0)) (hy4 : G (kb + 4) = some (1, 12, 0, 0)) (hc0 : V (kb + 2) = some (.inr (7, [.int (fk), .int (fp), .ref (kb), .ref (qb), .int (nx), .int (tk), .int (st), .ref (kb + 3)]))) (hc1 : V (kb + 3) = some (.inr (9, [.ref (kb + 3 + 1), .int (nz)]))) (hc2 : V (kb + 4) = some (.inl (cs 0, 12, .inl (nf)))) (hc3 : V (u) = some (.inl (cs 7, N, .inr (.inr (.inr (.inr (rg))))))) (hp0 : hx_TP cs V kb w) (hA : hx_A w j st nx tk) (hrg : ∀ i, i < N → rg i = some (ua + 2 * i)) (hNL : hx_NL cs V ua N w L) (hk : k.toInt = (L.length : Int)) (hNb : N ≤ 100) (hua : kb + 88 ≤ ua ∧ kb + 88 ≤ u) : hp_M l yX7_isNewName cX7_isNewName 3 (some .boolean) ({ frames := 4, cells := 0, slots := 0, locals := 88 }) D cs B V n [.ref (kb + 2), .ref (u), .int (k)] (hp_QI D cs B (fun r V' n' => n = n' ∧ hq_P cs G (fun _ => true) V V' ∧ (∀ x, x ≠ kb + 2 → x ≠ kb + 3 → x ≠ kb + 4 → V' x = V x) ∧ (∃ fk1 : Int32, ∃ fp1 : Int32, ∃ nz1 : Int32, ∃ nf1 : Nat → Int32, V' (kb + 2) = some (.inr (7, [.int (fk1), .int (fp1), .ref (kb), .ref (qb), .int (nx), .int (tk), .int (st), .ref (kb + 3)])) ∧ V' (kb + 3) = some (.inr (9, [.ref (kb + 3 + 1), .int (nz1)])) ∧ V' (kb + 4) = some (.inl (cs 0, 12, .inl (nf1))) ∧ (hx_D (r.toInt = 0) (hx_F w (sp_new w L j).1 (sp_new w L j).2 fk1 fp1) ((sp_new w L j).1 = 0 ∧ (fk1.toInt = fk.toInt ∧ fp1.toInt = fp.toInt) ∧ hx_N cs V' (kb + 3) w j)) ∧ (r.toInt = 0 ∨ r.toInt = 1)))) 0 0 := by
  refine hp_walk (R0 := RX7) (by decide) rfl ?_ (Nat.le_of_ble_eq_true rfl)
  intro p e s m below meth c ls hx hb hr hts hown hlocks hin hml hZ hl
  have hP : hq_P cs G (fun _ => true) V V := hq_P.rf hI
  have hl : lv_has ls 3 [(0, .ref (kb + 2)), (1, .ref (u)), (2, .int (k))] := hl
  have hb_k := hq_rng k
  have hb_fk := hq_rng fk
  have hb_fp := hq_rng fp
  have hb_nx := hq_rng nx
  have hb_tk := hq_rng tk
  have hb_st := hq_rng st
  have hb_nz := hq_rng nz
  have hf_2 := hq_rgB hI hy4 hc2
  obtain ⟨b1, b2, b3, b4⟩ := id hA
  have hlen := hNL.1
  refine lv_aload_n hx hb dX7_isNewName_0 rfl (lv_at hl 0 rfl) ?_
  refine hp_calli (hp_runV (As := []) (rest := []) hx hb hml hown hts (x_isName l D cs B G V n hP.1 (kb) (qb) (w) (j) (fk) (fp) (nx) (tk) (st) (nz) (nf) hy0 hy1 hy2 hy3 hy4 hc0 hc1 hc2 hp0 hA) hZ hc0 cv_X7_185 rfl rfl ⟨Nat.le_of_ble_eq_true rfl, Nat.le_of_ble_eq_true rfl⟩ rfl hl.1 rfl (Nat.le_of_ble_eq_true rfl) dX7_isNewName_1 ⟨(Nat.le_of_ble_eq_true rfl), (Nat.le_of_ble_eq_true rfl)⟩) hZ (fun r8 V5 n6 _ _ hw7 hZ => ?_)
  obtain ⟨rfl, hq9, fr10, z11, z12, z13, u14, ho15, ho16, ho17, hp18, hp19⟩ := hw7
  have b20 := hq_rng z11
  have b21 := hq_rng z12
  have b22 := hq_rng z13
  have hP := hP.trans hq9 (fun _ h => Bool.noConfusion h)
  have hf23 := hq_rgB hP.1 hy4 ho17
  have b24 := hq_rng r8
  refine lv_if_ne (tgt := 9) hx hb dX7_isNewName_4 (by decide) (fun c25 => ?_) (fun c25 => ?_)
  · have c25 : ¬ (r8).toInt = (0 : Int) := fun h9 => c25 (hq_eqi.mpr h9)
    obtain ⟨b26, ⟨b27, b28⟩, hN9⟩ := hx_D.neg hp18 (by omega)
    refine lv_aload_n hx hb dX7_isNewName_9 rfl (lv_at hl 0 rfl) ?_
    refine hp_get (v := .ref (kb + 3)) hx hb hts hown hZ ho15 fl_X7_23 rfl dX7_isNewName_10 ?_
    refine lv_aload_n hx hb dX7_isNewName_13 rfl (lv_at hl 1 rfl) ?_
    refine lv_iload_n hx hb dX7_isNewName_14 rfl (lv_at hl 2 rfl) ?_
    have fx29 : V5 (u) = some (.inl (cs 7, N, .inr (.inr (.inr (.inr (rg)))))) := (fr10 (u) (by omega) (by omega) (by omega)).trans (hc3)
    have pk30 := hNL.keep (fun x7 (hx7 : ua ≤ x7 ∧ x7 < ua + 2 * L.length) => fr10 x7 (by omega) (by omega) (by omega))
    refine hp_calli (hp_runS (As := [.ref (kb + 3), .ref (u), .int (k)]) (rest := []) hx hb hml hown hts (x_indexOf l D cs B G V5 n hP.1 (kb + 3) (u) (ua) (N) (w) (j) (L) (k) (rg)  fx29  hrg pk30 hN9 hk hNb) hZ cv_X7_188 rfl rfl ⟨Nat.le_of_ble_eq_true rfl, Nat.le_of_ble_eq_true rfl⟩ rfl hl.1 rfl (Nat.le_of_ble_eq_true rfl) dX7_isNewName_15 ⟨(Nat.le_of_ble_eq_true rfl), (Nat.le_of_ble_eq_true rfl)⟩) hZ (fun r34 V31 n32 _ _ hw33 hZ => ?_)
    obtain ⟨rfl, rfl, hp37⟩ := hw33
    have b38 := hq_rng r34
    have hfr := sp_fi_rg w j L 0 (by decide)
    refine lv_iconst (v := -1) hx hb dX7_isNewName_18 (by decide) ?_
    refine lv_icmp_eq (tgt := 30) hx hb dX7_isNewName_19 (by decide) (fun c39 => ?_) (fun c39 => ?_)
    · have c39 : (r34).toInt = (-1 : Int) := hq_eqi.mp c39
      refine lv_iconst (v := 1) hx hb dX7_isNewName_30 (by decide) ?_
      refine lv_goto (tgt := 35) hx hb dX7_isNewName_31 (by decide) ?_
      have hl40 : (1 : Int32).toInt = 1 := by decide
      exact hp_zret hx hb hr rfl hlocks hZ ⟨rfl, hP, (fun x8 hne0 hne1 hne2 => fr10 x8 hne0 hne1 hne2), z11, z12, z13, u14, ho15, ho16, ho17, hx_D.r (by omega) (by unfold sp_new; (repeat (first | (rw [if_pos]; rotate_left; omega) | (rw [if_neg]; rotate_left; omega))); (try dsimp only); exact ⟨by first | rfl | omega, ⟨by omega, by omega⟩, hN9⟩), by omega⟩ dX7_isNewName_35
    · have c39 : ¬ (r34).toInt = (-1 : Int) := fun h9 => c39 (hq_eqi.mpr h9)
      refine lv_aload_n hx hb dX7_isNewName_22 rfl (lv_at hl 0 rfl) ?_
      refine lv_iconst (v := 2) hx hb dX7_isNewName_23 (by decide) ?_
      have hl41 : (2 : Int32).toInt = 2 := by decide
      refine hp_calli (hp_runV (As := [.int (2)]) (rest := []) hx hb hml hown hts (x_refuse l D cs B G V5 n hP.1 (kb) (qb) (2) (z11) (z12) (nx) (tk) (st) hy2 ho15  ) hZ ho15 cv_X7_65 rfl rfl ⟨Nat.le_of_ble_eq_true rfl, Nat.le_of_ble_eq_true rfl⟩ rfl hl.1 rfl (Nat.le_of_ble_eq_true rfl) dX7_isNewName_24 ⟨(Nat.le_of_ble_eq_true rfl), (Nat.le_of_ble_eq_true rfl)⟩) hZ (fun r45 V42 n43 _ _ hw44 hZ => ?_)
      obtain ⟨rfl, hq46, fr47, ho48, hp49⟩ := hw44
      have hP := hP.trans hq46 (fun _ h => Bool.noConfusion h)
      have b50 := hq_rng r45
      have hl51 : (0 : Int32).toInt = 0 := by decide
      refine lv_if_eq (tgt := 34) hx hb dX7_isNewName_27 (by decide) (fun c52 => ?_) (fun c52 => absurd ((Int32.toInt_inj.mp (by omega) : r45 = 0)) c52)
      refine lv_iconst (v := 0) hx hb dX7_isNewName_34 (by decide) ?_
      have hl53 : (0 : Int32).toInt = 0 := by decide
      have hl54 : (2 : Int32).toInt = 2 := by decide
      have fx55 : V42 (kb + 3) = some (.inr (9, [.ref (kb + 4), .int (z13)])) := (fr47 (kb + 3) (hq_tne hy3 hy2 (by simp))).trans (ho16)
      have fx56 : V42 (kb + 4) = some (.inl (cs 0, 12, .inl (u14))) := (fr47 (kb + 4) (hq_tne hy4 hy2 (by simp))).trans (ho17)
      exact hp_zret hx hb hr rfl hlocks hZ ⟨rfl, hP, (fun x8 hne0 hne1 hne2 => (fr47 x8 hne0).trans (fr10 x8 hne0 hne1 hne2)), 2, st, z13, u14, ho48, fx55, fx56, hx_D.l (by omega) (by unfold sp_new; (repeat (first | (rw [if_pos]; rotate_left; omega) | (rw [if_neg]; rotate_left; omega))); (try dsimp only); first | exact hA | exact ⟨by omega, by omega, by omega⟩), by omega⟩ dX7_isNewName_35
  · have c25 : (r8).toInt = (0 : Int) := hq_eqi.mp c25
    obtain ⟨b57, b58, b59⟩ := hx_D.pos hp18 (by omega)
    refine lv_iconst (v := 0) hx hb dX7_isNewName_7 (by decide) ?_
    have hl60 : (0 : Int32).toInt = 0 := by decide
    exact hp_zret hx hb hr rfl hlocks hZ ⟨rfl, hP, (fun x8 hne0 hne1 hne2 => fr10 x8 hne0 hne1 hne2), z11, z12, z13, u14, ho15, ho16, ho17, hx_D.l (by omega) (by unfold sp_new; (repeat (first | (rw [if_pos]; rotate_left; omega) | (rw [if_neg]; rotate_left; omega))); (try dsimp only); first | exact hA | exact ⟨by omega, by omega, by omega⟩), by omega⟩ dX7_isNewName_8

set_option maxHeartbeats 4000000 in
set_option maxRecDepth 100000 in
theorem x_takeClass (l : Launch) (D : va_G) (cs : Nat → ClassId) (B : Nat) (G : hq_G) (V : hp_V) (n : Nat) (hI : hq_I cs G V) (kb : Nat) (qb : Nat) (w : sp_W) (ta : Nat) (bb : Nat) (j : Nat) (cl : List Nat) (vn : List Nat) (fk : Int32) (fp : Int32) (nx : Int32) (tk : Int32) (st : Int32) (nz : Int32) (nf : Nat → Int32) (bc : Int32) (bv : Int32) (bl : Int32) (hy0 : G (kb) = some (0, 4000, 0, 0)) (hy1 : G (kb + 1) = some (1, 4000, 0, 0)) (hy2 : G (kb + 2) = some (10, 0, 0, 0)) (hy3 : G (kb + 3) = some (0, 12, 0, 0)) (hy4 : G (kb + 4) = some (1, 12, 0, 0)) (hy5 : G (qb) = some (6, bb, 0, 0)) (hy6 : G (qb + 1) = some (4, 7, 6, 0)) (hy7 : G (qb + 14) = some (4, 7, 30, 0)) (hy8 : G (qb + 75) = some (2, 3, 30, 0)) (hy9 : G (qb + 76) = some (4, 6, 60, bb)) (hc0 : V (kb + 2) = some (.inr (7, [.int (fk), .int (fp), .ref (kb), .ref (qb), .int (nx), .int (tk), .int (st), .ref (kb + 3)]))) (hc1 : V (kb + 3) = some (.inr (9, [.ref (kb + 3 + 1), .int (nz)]))) (hc2 : V (kb + 4) = some (.inl (cs 0, 12, .inl (nf)))) (hc3 : V (qb) = some (.inr (0, [.ref (qb + 1), .int (bc), .ref (qb + 14), .ref (qb + 75), .int (bv), .ref (qb + 76), .int (bl)]))) (hp0 : hx_TP cs V kb w) (hp1 : hx_BS cs V qb) (hp2 : hx_NL cs V (qb + 2) 6 w cl) (hp3 : hx_NL cs V (qb + 15) 30 w vn) (hp4 : hx_SK cs V qb) (hA : hx_A w j st nx tk) (hq : kb + 88 ≤ qb) (hbc : bc.toInt = (cl.length : Int)) (hbv : bv.toInt = (vn.length : Int)) (hbl9 : 0 ≤ bl.toInt ∧ bl.toInt ≤ 60) (hBT : hx_BT G qb bb) (hta0 : cl.length < 6 → ta = qb + 2 + 2 * cl.length) (hta2 : qb + 2 ≤ ta ∧ ta + 2 ≤ qb + 14) (hk6 : sp_k w j = 6) : hp_M l yX7_takeClass cX7_takeClass 1 (some .boolean) ({ frames := 7, cells := 0, slots := 0, locals := 152 }) D cs B V n [.ref (kb + 2)] (hp_QI D cs B (fun r V' n' => n = n' ∧ hq_P cs G (fun _ => true) V V' ∧ (∀ x, x ≠ kb + 2 → x ≠ kb + 3 → x ≠ kb + 4 → x ≠ qb → x ≠ ta → x ≠ ta + 1 → V' x = V x) ∧ (∃ fk1 : Int32, ∃ fp1 : Int32, ∃ nx1 : Int32, ∃ tk1 : Int32, ∃ st1 : Int32, ∃ nz1 : Int32, ∃ nf1 : Nat → Int32, ∃ bc1 : Int32, V' (kb + 2) = some (.inr (7, [.int (fk1), .int (fp1), .ref (kb), .ref (qb), .int (nx1), .int (tk1), .int (st1), .ref (kb + 3)])) ∧ V' (kb + 3) = some (.inr (9, [.ref (kb + 3 + 1), .int (nz1)])) ∧ V' (kb + 4) = some (.inl (cs 0, 12, .inl (nf1))) ∧ V' (qb) = some (.inr (0, [.ref (qb + 1), .int (bc1), .ref (qb + 14), .ref (qb + 75), .int (bv), .ref (qb + 76), .int (bl)])) ∧ (hx_D (r.toInt = 0) (hx_F w (sp_tc w cl j).1 (sp_tc w cl j).2 fk1 fp1) ((sp_tc w cl j).1 = 0 ∧ hx_O w (sp_tc w cl j).2 fk fp fk1 fp1 st1 nx1 tk1 ∧ bc1.toInt = bc.toInt + 1 ∧ hx_N cs V' ta w (j + 1) ∧ cl.length < 6)) ∧ (r.toInt = 0 ∨ r.toInt = 1) ∧ (hx_SK cs V' qb) ∧ (bc.toInt ≤ bc1.toInt ∧ bc1.toInt ≤ 6)))) 0 0 := by
  refine hp_walk (R0 := RX7) (by decide) rfl ?_ (Nat.le_of_ble_eq_true rfl)
  intro p e s m below meth c ls hx hb hr hts hown hlocks hin hml hZ hl
  have hP : hq_P cs G (fun _ => true) V V := hq_P.rf hI
  have hl : lv_has ls 1 [(0, .ref (kb + 2))] := hl
  have hb_fk := hq_rng fk
  have hb_fp := hq_rng fp
  have hb_nx := hq_rng nx
  have hb_tk := hq_rng tk
  have hb_st := hq_rng st
  have hb_nz := hq_rng nz
  have hb_bc := hq_rng bc
  have hb_bv := hq_rng bv
  have hb_bl := hq_rng bl
  have hf_2 := hq_rgB hI hy4 hc2
  obtain ⟨b1, b2, b3, b4⟩ := id hA
  obtain ⟨⟨g1, hg1, hr1⟩, ⟨g2, hg2, hr2⟩, ⟨g3, hg3, hr3⟩⟩ := id hp1
  have hlenc := hp2.1
  have hlenv := hp3.1
  have hSK0 := hp4
  have hz9 := hx_TP.size hp0
  refine lv_aload_n hx hb dX7_takeClass_0 rfl (lv_at hl 0 rfl) ?_
  refine hp_get (v := .ref (qb)) hx hb hts hown hZ hc0 fl_X7_30 rfl dX7_takeClass_1 ?_
  refine hp_get (v := .int (bc)) hx hb hts hown hZ hc3 fl_X7_62 rfl dX7_takeClass_4 ?_
  refine lv_bipush (v := 6) hx hb dX7_takeClass_7 (by decide) ?_
  refine lv_icmp_lt (tgt := 18) hx hb dX7_takeClass_9 (by decide) (fun c5 => ?_) (fun c5 => ?_)
  · have c5 : (bc).toInt < (6 : Int) := hq_lti.mp c5
    have hta := hta0 (by omega)
    refine lv_aload_n hx hb dX7_takeClass_18 rfl (lv_at hl 0 rfl) ?_
    refine hp_callv (hp_runV (As := []) (rest := []) hx hb hml hown hts (x_next l D cs B G V n hP.1 (kb) (qb) (w) (j) (fk) (fp) (nx) (tk) (st) hy0 hy1 hy2 hc0 hp0 hA (by omega)) hZ hc0 cv_X7_42 rfl rfl ⟨Nat.le_of_ble_eq_true rfl, Nat.le_of_ble_eq_true rfl⟩ rfl hl.1 rfl (Nat.le_of_ble_eq_true rfl) dX7_takeClass_19 ⟨(Nat.le_of_ble_eq_true rfl), (Nat.le_of_ble_eq_true rfl)⟩) hZ (fun V6 n7 _ _ hw8 hZ => ?_)
    obtain ⟨rfl, hq10, fr11, z12, z13, z14, ho15, hp16⟩ := hw8
    have b17 := hq_rng z12
    have b18 := hq_rng z13
    have b19 := hq_rng z14
    have hP := hP.trans hq10 (fun _ h => Bool.noConfusion h)
    obtain ⟨b20, b21, b22, b23⟩ := id hp16
    refine lv_aload_n hx hb dX7_takeClass_22 rfl (lv_at hl 0 rfl) ?_
    refine lv_aload_n hx hb dX7_takeClass_23 rfl (lv_at hl 0 rfl) ?_
    refine hp_get (v := .ref (qb)) hx hb hts hown hZ ho15 fl_X7_30 rfl dX7_takeClass_24 ?_
    have fx24 : V6 (qb) = some (.inr (0, [.ref (qb + 1), .int (bc), .ref (qb + 14), .ref (qb + 75), .int (bv), .ref (qb + 76), .int (bl)])) := (fr11 (qb) (hq_tne hy5 hy2 (by simp))).trans (hc3)
    refine hp_get (v := .ref (qb + 1)) hx hb hts hown hZ fx24 fl_X7_68 rfl dX7_takeClass_27 ?_
    refine lv_aload_n hx hb dX7_takeClass_30 rfl (lv_at hl 0 rfl) ?_
    refine hp_get (v := .ref (qb)) hx hb hts hown hZ ho15 fl_X7_30 rfl dX7_takeClass_31 ?_
    refine hp_get (v := .int (bc)) hx hb hts hown hZ fx24 fl_X7_62 rfl dX7_takeClass_34 ?_
    have fx25 : V6 (kb + 3) = some (.inr (9, [.ref (kb + 3 + 1), .int (nz)])) := (fr11 (kb + 3) (hq_tne hy3 hy2 (by simp))).trans (hc1)
    have fx26 : V6 (kb + 4) = some (.inl (cs 0, 12, .inl (nf))) := (fr11 (kb + 4) (hq_tne hy4 hy2 (by simp))).trans (hc2)
    have fx27 : V6 (qb + 1) = some (.inl (cs 7, 6, .inr (.inr (.inr (.inr (g1)))))) := (fr11 (qb + 1) (hq_tne hy6 hy2 (by simp))).trans (hg1)
    have pk28 := hp0.keep (fr11 (kb) (hq_tne hy0 hy2 (by simp))) (fr11 (kb + 1) (hq_tne hy1 hy2 (by simp)))
    have pk29 := hp2.keep (fun x7 (hx7 : qb + 2 ≤ x7 ∧ x7 < qb + 2 + 2 * cl.length) => fr11 x7 (by omega))
    refine hp_calli (hp_runV (As := [.ref (qb + 1), .int (bc)]) (rest := []) hx hb hml hown hts (x_isNewName l D cs B G V6 n hP.1 (kb) (qb) (w) (j + 1) (qb + 1) (qb + 2) (6) (cl) (bc) (g1) (fk) (fp) (z12) (z13) (z14) (nz) (nf) hy0 hy1 hy2 hy3 hy4 ho15 fx25 fx26 fx27 pk28 hp16 hr1 pk29 hbc (by decide) (by omega)) hZ ho15 cv_X7_72 rfl rfl ⟨Nat.le_of_ble_eq_true rfl, Nat.le_of_ble_eq_true rfl⟩ rfl hl.1 rfl (Nat.le_of_ble_eq_true rfl) dX7_takeClass_37 ⟨(Nat.le_of_ble_eq_true rfl), (Nat.le_of_ble_eq_true rfl)⟩) hZ (fun r33 V30 n31 _ _ hw32 hZ => ?_)
    obtain ⟨rfl, hq34, fr35, z36, z37, z38, u39, ho40, ho41, ho42, hp43, hp44⟩ := hw32
    have b45 := hq_rng z36
    have b46 := hq_rng z37
    have b47 := hq_rng z38
    have hP := hP.trans hq34 (fun _ h => Bool.noConfusion h)
    have hf48 := hq_rgB hP.1 hy4 ho42
    have b49 := hq_rng r33
    refine lv_if_ne (tgt := 45) hx hb dX7_takeClass_40 (by decide) (fun c50 => ?_) (fun c50 => ?_)
    · have c50 : ¬ (r33).toInt = (0 : Int) := fun h9 => c50 (hq_eqi.mpr h9)
      obtain ⟨b51, ⟨b52, b53⟩, b55⟩ := hx_D.neg hp43 (by omega)
      have b56 := sp_new_k (w := w) (L := cl) (j := j + 1) (by omega)
      refine lv_aload_n hx hb dX7_takeClass_45 rfl (lv_at hl 0 rfl) ?_
      refine hp_get (v := .ref (qb)) hx hb hts hown hZ ho40 fl_X7_30 rfl dX7_takeClass_46 ?_
      have fx57 : V30 (qb) = some (.inr (0, [.ref (qb + 1), .int (bc), .ref (qb + 14), .ref (qb + 75), .int (bv), .ref (qb + 76), .int (bl)])) := (fr35 (qb) (hq_tne hy5 hy2 (by simp)) (hq_tne hy5 hy3 (by simp)) (hq_tne hy5 hy4 (by simp))).trans (fx24)
      refine hp_get (v := .ref (qb + 1)) hx hb hts hown hZ fx57 fl_X7_68 rfl dX7_takeClass_49 ?_
      refine lv_aload_n hx hb dX7_takeClass_52 rfl (lv_at hl 0 rfl) ?_
      refine hp_get (v := .ref (qb)) hx hb hts hown hZ ho40 fl_X7_30 rfl dX7_takeClass_53 ?_
      refine hp_get (v := .int (bc)) hx hb hts hown hZ fx57 fl_X7_62 rfl dX7_takeClass_56 ?_
      have fx58 : V30 (qb + 1) = some (.inl (cs 7, 6, .inr (.inr (.inr (.inr (g1)))))) := (fr35 (qb + 1) (hq_tne hy6 hy2 (by simp)) (hq_tne hy6 hy3 (by simp)) (hq_tne hy6 hy4 (by simp))).trans (fx27)
      have hi3 : (bc : Int32).toNatClampNeg = cl.length := by have h8 := (hq_nn (z := bc) (by omega)).1; omega
      have hla1 : g1 (bc : Int32).toNatClampNeg = some ta := by rw [hi3, hta]; exact hr1 _ (by omega)
      have pk59 := hp4.keep (fun x7 (hx7 : qb + 2 ≤ x7 ∧ x7 < qb + 377) => (fr35 x7 (by omega) (by omega) (by omega)).trans (fr11 x7 (by omega)))
      obtain ⟨oz, of9, hx1, hx2, hx3⟩ := (show hx_TS cs V30 ta 12 by rw [hta]; exact pk59.1 _ (by omega))
      have hyt := hBT.1 cl.length (by omega)
      rw [← hta] at hyt
      have hfr9 := hq_rgB hP.1 hyt.2 hx2
      obtain ⟨mz, mf, hm1, hm2, hm3, hm4, hm5⟩ := b55
      refine hp_aald (v := .ref (ta)) hx hb hZ 7 fx58 rfl (hq_in (by omega) (by omega)) (by rw [hla1]; rfl) dX7_takeClass_59 ?_
      refine lv_aload_n hx hb dX7_takeClass_60 rfl (lv_at hl 0 rfl) ?_
      refine hp_get (v := .ref (kb + 3)) hx hb hts hown hZ ho40 fl_X7_23 rfl dX7_takeClass_61 ?_
      refine hp_callv (hp_runV (As := [.ref (kb + 3)]) (rest := []) hx hb hml hown hts (x_set l D cs B G V30 n hP.1 (ta) (12) (kb + 3) (12) (oz) (of9) (mz) (mf) hyt.1 hyt.2 hy4 hx1 hx2 hm1 hm2  (by omega) (by decide) (by decide) (by omega) (by omega)) hZ hx1 cv_X7_76 rfl rfl ⟨Nat.le_of_ble_eq_true rfl, Nat.le_of_ble_eq_true rfl⟩ rfl hl.1 rfl (Nat.le_of_ble_eq_true rfl) dX7_takeClass_64 ⟨(Nat.le_of_ble_eq_true rfl), (Nat.le_of_ble_eq_true rfl)⟩) hZ (fun V63 n64 _ _ hw65 hZ => ?_)
      obtain ⟨rfl, hq67, fr68, z69, u70, ho71, ho72, hp73, hp74⟩ := hw65
      have b75 := hq_rng z69
      have hP := hP.trans hq67 (fun _ h => Bool.noConfusion h)
      have hf76 := hq_rgB hP.1 hyt.2 ho72
      refine lv_aload_n hx hb dX7_takeClass_67 rfl (lv_at hl 0 rfl) ?_
      have fx77 : V63 (kb + 2) = some (.inr (7, [.int (z36), .int (z37), .ref (kb), .ref (qb), .int (z12), .int (z13), .int (z14), .ref (kb + 3)])) := (fr68 (kb + 2) (hq_tne hy2 hyt.1 (by simp)) (hq_tne hy2 hyt.2 (by simp))).trans (ho40)
      refine hp_get (v := .ref (qb)) hx hb hts hown hZ fx77 fl_X7_30 rfl dX7_takeClass_68 ?_
      refine lv_dup hx hb dX7_takeClass_71 rfl ?_
      have fx78 : V63 (qb) = some (.inr (0, [.ref (qb + 1), .int (bc), .ref (qb + 14), .ref (qb + 75), .int (bv), .ref (qb + 76), .int (bl)])) := (fr68 (qb) (hq_tne hy5 hyt.1 (by simp)) (hq_tne hy5 hyt.2 (by simp))).trans (fx57)
      refine hp_get (v := .int (bc)) hx hb hts hown hZ fx78 fl_X7_62 rfl dX7_takeClass_72 ?_
      refine lv_iconst (v := 1) hx hb dX7_takeClass_75 (by decide) ?_
      refine lv_iadd hx hb dX7_takeClass_76 ?_
      refine lv_topi (fun y79 ey80 => ?_)
      obtain ⟨k81, hk82, b83, b84⟩ := hq_add (bc) (1)
      rw [← ey80] at hk82 b83 b84
      have hk82 : (y79).toInt = (bc).toInt + (1 : Int) + k81 * 4294967296 := hk82
      obtain rfl : k81 = 0 := by omega
      refine hp_put hx hb hts hown hZ fx78 fp_X7_62 rfl rfl (Nat.le_of_ble_eq_true rfl) dX7_takeClass_77 (fun V85 _ _ e86 o87 hZ => ?_)
      have e86 : V85 (qb) = some (.inr (0, [.ref (qb + 1), .int (y79), .ref (qb + 14), .ref (qb + 75), .int (bv), .ref (qb + 76), .int (bl)])) := e86
      have hP := hP.put hy5 e86 o87 (hq_c6 hy6 hy7 hy8 hy9 (show 0 ≤ (y79).toInt ∧ (y79).toInt ≤ 6 by omega) (show 0 ≤ (bv).toInt ∧ (bv).toInt ≤ 30 by omega) (show 0 ≤ (bl).toInt ∧ (bl).toInt ≤ 60 by omega)) rfl
      refine lv_aload_n hx hb dX7_takeClass_80 rfl (lv_at hl 0 rfl) ?_
      have fx88 : V85 (kb + 2) = some (.inr (7, [.int (z36), .int (z37), .ref (kb), .ref (qb), .int (z12), .int (z13), .int (z14), .ref (kb + 3)])) := (o87 (kb + 2) (hq_tne hy2 hy5 (by simp))).trans (fx77)
      have pk89 := pk28.keep ((o87 (kb) (hq_tne hy0 hy5 (by simp))).trans ((fr68 (kb) (hq_tne hy0 hyt.1 (by simp)) (hq_tne hy0 hyt.2 (by simp))).trans (fr35 (kb) (hq_tne hy0 hy2 (by simp)) (hq_tne hy0 hy3 (by simp)) (hq_tne hy0 hy4 (by simp))))) ((o87 (kb + 1) (hq_tne hy1 hy5 (by simp))).trans ((fr68 (kb + 1) (hq_tne hy1 hyt.1 (by simp)) (hq_tne hy1 hyt.2 (by simp))).trans (fr35 (kb + 1) (hq_tne hy1 hy2 (by simp)) (hq_tne hy1 hy3 (by simp)) (hq_tne hy1 hy4 (by simp)))))
      refine hp_callv (hp_runV (As := []) (rest := []) hx hb hml hown hts (x_next l D cs B G V85 n hP.1 (kb) (qb) (w) (j + 1) (z36) (z37) (z12) (z13) (z14) hy0 hy1 hy2 fx88 pk89 hp16 (by omega)) hZ fx88 cv_X7_42 rfl rfl ⟨Nat.le_of_ble_eq_true rfl, Nat.le_of_ble_eq_true rfl⟩ rfl hl.1 rfl (Nat.le_of_ble_eq_true rfl) dX7_takeClass_81 ⟨(Nat.le_of_ble_eq_true rfl), (Nat.le_of_ble_eq_true rfl)⟩) hZ (fun V90 n91 _ _ hw92 hZ => ?_)
      obtain ⟨rfl, hq94, fr95, z96, z97, z98, ho99, hp100⟩ := hw92
      have b101 := hq_rng z96
      have b102 := hq_rng z97
      have b103 := hq_rng z98
      have hP := hP.trans hq94 (fun _ h => Bool.noConfusion h)
      have hA104 : hx_A w (j + 2) _ _ _ := hp100
      obtain ⟨b105, b106, b107, b108⟩ := id hA104
      refine lv_iconst (v := 1) hx hb dX7_takeClass_84 (by decide) ?_
      have hl109 : (1 : Int32).toInt = 1 := by decide
      have fx110 : V90 (kb + 3) = some (.inr (9, [.ref (kb + 4), .int (mz)])) := (fr95 (kb + 3) (hq_tne hy3 hy2 (by simp))).trans ((o87 (kb + 3) (hq_tne hy3 hy5 (by simp))).trans ((fr68 (kb + 3) (by omega) (hq_tne hy3 hyt.2 (by simp))).trans (hm1)))
      have fx111 : V90 (kb + 4) = some (.inl (cs 0, 12, .inl (mf))) := (fr95 (kb + 4) (hq_tne hy4 hy2 (by simp))).trans ((o87 (kb + 4) (hq_tne hy4 hy5 (by simp))).trans ((fr68 (kb + 4) (hq_tne hy4 hyt.1 (by simp)) (by omega)).trans (hm2)))
      have fx112 : V90 (qb) = some (.inr (0, [.ref (qb + 1), .int (y79), .ref (qb + 14), .ref (qb + 75), .int (bv), .ref (qb + 76), .int (bl)])) := (fr95 (qb) (hq_tne hy5 hy2 (by simp))).trans (e86)
      have fx113 : V90 (ta) = some (.inr (9, [.ref (ta + 1), .int (z69)])) := (fr95 (ta) (hq_tne hyt.1 hy2 (by simp))).trans ((o87 (ta) (hq_tne hyt.1 hy5 (by simp))).trans (ho71))
      have fx114 : V90 (ta + 1) = some (.inl (cs 0, 12, .inl (u70))) := (fr95 (ta + 1) (hq_tne hyt.2 hy2 (by simp))).trans ((o87 (ta + 1) (hq_tne hyt.2 hy5 (by simp))).trans (ho72))
      exact hp_zret hx hb hr rfl hlocks hZ ⟨rfl, hP, (fun x8 hne0 hne1 hne2 hne3 hne4 hne5 => (fr95 x8 hne0).trans ((o87 x8 hne3).trans ((fr68 x8 hne4 hne5).trans ((fr35 x8 hne0 hne1 hne2).trans (fr11 x8 hne0))))), z36, z37, z96, z97, z98, mz, mf, y79, ho99, fx110, fx111, fx112, hx_D.r (by omega) (by unfold sp_tc; (repeat (first | (rw [if_pos]; rotate_left; omega) | (rw [if_neg]; rotate_left; omega))); (try dsimp only); exact ⟨by first | rfl | omega, ⟨by omega, by omega, hA104⟩, by omega, ⟨_, _, fx113, fx114, by omega, by omega, fun k9 hk9 => by rw [hp74 k9 (by omega)]; exact hm5 k9 (by omega)⟩, by omega⟩), by omega, hSK0.cn (i := cl.length) (fun x7 hx7 => (fr95 x7 (by omega)).trans ((o87 x7 (by omega)).trans ((fr68 x7 (by omega) (by omega)).trans ((fr35 x7 (by omega) (by omega) (by omega)).trans (fr11 x7 (by omega)))))) (by omega) (by rw [← hta]; exact ⟨_, _, fx113, fx114, by omega⟩), by omega⟩ dX7_takeClass_85
    · have c50 : (r33).toInt = (0 : Int) := hq_eqi.mp c50
      have hF115 := hx_D.pos hp43 (by omega)
      have b116 := hF115.1
      have b117 := hF115.2.1
      refine lv_iconst (v := 0) hx hb dX7_takeClass_43 (by decide) ?_
      have hl118 : (0 : Int32).toInt = 0 := by decide
      have fx119 : V30 (qb) = some (.inr (0, [.ref (qb + 1), .int (bc), .ref (qb + 14), .ref (qb + 75), .int (bv), .ref (qb + 76), .int (bl)])) := (fr35 (qb) (hq_tne hy5 hy2 (by simp)) (hq_tne hy5 hy3 (by simp)) (hq_tne hy5 hy4 (by simp))).trans (fx24)
      have pk120 := hp4.keep (fun x7 (hx7 : qb + 2 ≤ x7 ∧ x7 < qb + 377) => (fr35 x7 (by omega) (by omega) (by omega)).trans (fr11 x7 (by omega)))
      exact hp_zret hx hb hr rfl hlocks hZ ⟨rfl, hP, (fun x8 hne0 hne1 hne2 hne3 hne4 hne5 => (fr35 x8 hne0 hne1 hne2).trans (fr11 x8 hne0)), z36, z37, z12, z13, z14, z38, u39, bc, ho40, ho41, ho42, fx119, hx_D.l (by omega) (by unfold sp_tc; (repeat (first | (rw [if_pos]; rotate_left; omega) | (rw [if_neg]; rotate_left; omega))); (try dsimp only); first | exact hF115 | exact ⟨by omega, by omega, by omega⟩), by omega, pk120, by omega⟩ dX7_takeClass_44
  · have c5 : ¬ (bc).toInt < (6 : Int) := fun h9 => c5 (hq_lti.mpr h9)
    refine lv_aload_n hx hb dX7_takeClass_12 rfl (lv_at hl 0 rfl) ?_
    refine lv_iconst (v := 4) hx hb dX7_takeClass_13 (by decide) ?_
    have hl121 : (4 : Int32).toInt = 4 := by decide
    refine hp_calli (hp_runV (As := [.int (4)]) (rest := []) hx hb hml hown hts (x_refuse l D cs B G V n hP.1 (kb) (qb) (4) (fk) (fp) (nx) (tk) (st) hy2 hc0  ) hZ hc0 cv_X7_65 rfl rfl ⟨Nat.le_of_ble_eq_true rfl, Nat.le_of_ble_eq_true rfl⟩ rfl hl.1 rfl (Nat.le_of_ble_eq_true rfl) dX7_takeClass_14 ⟨(Nat.le_of_ble_eq_true rfl), (Nat.le_of_ble_eq_true rfl)⟩) hZ (fun r125 V122 n123 _ _ hw124 hZ => ?_)
    obtain ⟨rfl, hq126, fr127, ho128, hp129⟩ := hw124
    have hP := hP.trans hq126 (fun _ h => Bool.noConfusion h)
    have b130 := hq_rng r125
    have fx131 : V122 (kb + 3) = some (.inr (9, [.ref (kb + 3 + 1), .int (nz)])) := (fr127 (kb + 3) (hq_tne hy3 hy2 (by simp))).trans (hc1)
    have fx132 : V122 (kb + 4) = some (.inl (cs 0, 12, .inl (nf))) := (fr127 (kb + 4) (hq_tne hy4 hy2 (by simp))).trans (hc2)
    have fx133 : V122 (qb) = some (.inr (0, [.ref (qb + 1), .int (bc), .ref (qb + 14), .ref (qb + 75), .int (bv), .ref (qb + 76), .int (bl)])) := (fr127 (qb) (hq_tne hy5 hy2 (by simp))).trans (hc3)
    have hl134 : (4 : Int32).toInt = 4 := by decide
    have pk135 := hp4.keep (fun x7 (hx7 : qb + 2 ≤ x7 ∧ x7 < qb + 377) => fr127 x7 (by omega))
    exact hp_zret hx hb hr (hq_nzi (by omega) (by omega)) hlocks hZ ⟨rfl, hP, (fun x8 hne0 hne1 hne2 hne3 hne4 hne5 => fr127 x8 hne0), 4, st, nx, tk, st, nz, nf, bc, ho128, fx131, fx132, fx133, hx_D.l (by omega) (by unfold sp_tc; (repeat (first | (rw [if_pos]; rotate_left; omega) | (rw [if_neg]; rotate_left; omega))); (try dsimp only); first | exact hA | exact ⟨by omega, by omega, by omega⟩), by omega, pk135, by omega⟩ dX7_takeClass_17

set_option maxHeartbeats 4000000 in
set_option maxRecDepth 100000 in
theorem x_takeVerb (l : Launch) (D : va_G) (cs : Nat → ClassId) (B : Nat) (G : hq_G) (V : hp_V) (n : Nat) (hI : hq_I cs G V) (kb : Nat) (qb : Nat) (w : sp_W) (ta : Nat) (bb : Nat) (j : Nat) (cl : List Nat) (vn : List Nat) (fk : Int32) (fp : Int32) (nx : Int32) (tk : Int32) (st : Int32) (nz : Int32) (nf : Nat → Int32) (bc : Int32) (bv : Int32) (bl : Int32) (vf : Nat → Int32) (hy0 : G (kb) = some (0, 4000, 0, 0)) (hy1 : G (kb + 1) = some (1, 4000, 0, 0)) (hy2 : G (kb + 2) = some (10, 0, 0, 0)) (hy3 : G (kb + 3) = some (0, 12, 0, 0)) (hy4 : G (kb + 4) = some (1, 12, 0, 0)) (hy5 : G (qb) = some (6, bb, 0, 0)) (hy6 : G (qb + 1) = some (4, 7, 6, 0)) (hy7 : G (qb + 14) = some (4, 7, 30, 0)) (hy8 : G (qb + 75) = some (2, 3, 30, 0)) (hy9 : G (qb + 76) = some (4, 6, 60, bb)) (hc0 : V (kb + 2) = some (.inr (7, [.int (fk), .int (fp), .ref (kb), .ref (qb), .int (nx), .int (tk), .int (st), .ref (kb + 3)]))) (hc1 : V (kb + 3) = some (.inr (9, [.ref (kb + 3 + 1), .int (nz)]))) (hc2 : V (kb + 4) = some (.inl (cs 0, 12, .inl (nf)))) (hc3 : V (qb) = some (.inr (0, [.ref (qb + 1), .int (bc), .ref (qb + 14), .ref (qb + 75), .int (bv), .ref (qb + 76), .int (bl)]))) (hc4 : V (qb + 75) = some (.inl (cs 1, 30, .inl (vf)))) (hp0 : hx_TP cs V kb w) (hp1 : hx_BS cs V qb) (hp2 : hx_NL cs V (qb + 2) 6 w cl) (hp3 : hx_NL cs V (qb + 15) 30 w vn) (hp4 : hx_SK cs V qb) (hA : hx_A w j st nx tk) (hq : kb + 88 ≤ qb) (hbc : bc.toInt = (cl.length : Int)) (hbv : bv.toInt = (vn.length : Int)) (hbl9 : 0 ≤ bl.toInt ∧ bl.toInt ≤ 60) (hBT : hx_BT G qb bb) (hta0 : vn.length < 30 → ta = qb + 15 + 2 * vn.length) (hta2 : qb + 15 ≤ ta ∧ ta + 2 ≤ qb + 75) (hk7 : sp_k w j = 7) : hp_M l yX7_takeVerb cX7_takeVerb 2 (some .boolean) ({ frames := 8, cells := 0, slots := 0, locals := 175 }) D cs B V n [.ref (kb + 2)] (hp_QI D cs B (fun r V' n' => n = n' ∧ hq_P cs G (fun _ => true) V V' ∧ (∀ x, x ≠ kb + 2 → x ≠ kb + 3 → x ≠ kb + 4 → x ≠ qb → x ≠ qb + 75 → x ≠ ta → x ≠ ta + 1 → V' x = V x) ∧ (∃ fk1 : Int32, ∃ fp1 : Int32, ∃ nx1 : Int32, ∃ tk1 : Int32, ∃ st1 : Int32, ∃ nz1 : Int32, ∃ nf1 : Nat → Int32, ∃ bv1 : Int32, ∃ vf1 : Nat → Int32, V' (kb + 2) = some (.inr (7, [.int (fk1), .int (fp1), .ref (kb), .ref (qb), .int (nx1), .int (tk1), .int (st1), .ref (kb + 3)])) ∧ V' (kb + 3) = some (.inr (9, [.ref (kb + 3 + 1), .int (nz1)])) ∧ V' (kb + 4) = some (.inl (cs 0, 12, .inl (nf1))) ∧ V' (qb) = some (.inr (0, [.ref (qb + 1), .int (bc), .ref (qb + 14), .ref (qb + 75), .int (bv1), .ref (qb + 76), .int (bl)])) ∧ V' (qb + 75) = some (.inl (cs 1, 30, .inl (vf1))) ∧ (hx_D (r.toInt = 0) (hx_F w (sp_tv w cl vn j).1 (sp_tv w cl vn j).2.1 fk1 fp1) ((sp_tv w cl vn j).1 = 0 ∧ hx_O w (sp_tv w cl vn j).2.1 fk fp fk1 fp1 st1 nx1 tk1 ∧ bv1.toInt = bv.toInt + 1 ∧ hx_N cs V' ta w (j + 1) ∧ vn.length < 30 ∧ (∃ x9 : Int32, vf1 = upd vf vn.length x9 ∧ x9.toInt = (sp_tv w cl vn j).2.2))) ∧ (r.toInt = 0 ∨ r.toInt = 1) ∧ (hx_SK cs V' qb) ∧ (bv.toInt ≤ bv1.toInt ∧ bv1.toInt ≤ 30)))) 0 0 := by
  refine hp_walk (R0 := RX7) (by decide) rfl ?_ (Nat.le_of_ble_eq_true rfl)
  intro p e s m below meth c ls hx hb hr hts hown hlocks hin hml hZ hl
  have hP : hq_P cs G (fun _ => true) V V := hq_P.rf hI
  have hl : lv_has ls 2 [(0, .ref (kb + 2))] := hl
  have hb_fk := hq_rng fk
  have hb_fp := hq_rng fp
  have hb_nx := hq_rng nx
  have hb_tk := hq_rng tk
  have hb_st := hq_rng st
  have hb_nz := hq_rng nz
  have hb_bc := hq_rng bc
  have hb_bv := hq_rng bv
  have hb_bl := hq_rng bl
  have hf_2 := hq_rgB hI hy4 hc2
  have hf_4 := hq_rg2 hI hy8 hc4
  obtain ⟨b1, b2, b3, b4⟩ := id hA
  obtain ⟨⟨g1, hg1, hr1⟩, ⟨g2, hg2, hr2⟩, ⟨g3, hg3, hr3⟩⟩ := id hp1
  have hlenc := hp2.1
  have hlenv := hp3.1
  have hSK0 := hp4
  have hz9 := hx_TP.size hp0
  refine lv_aload_n hx hb dX7_takeVerb_0 rfl (lv_at hl 0 rfl) ?_
  refine hp_get (v := .ref (qb)) hx hb hts hown hZ hc0 fl_X7_30 rfl dX7_takeVerb_1 ?_
  refine hp_get (v := .int (bv)) hx hb hts hown hZ hc3 fl_X7_80 rfl dX7_takeVerb_4 ?_
  refine lv_istore_n (lv' := [(1, .int (bv)), (0, .ref (kb + 2))]) hx hb dX7_takeVerb_7 rfl hl (by decide) rfl (fun ls hl => ?_)
  refine lv_iload_n hx hb dX7_takeVerb_8 rfl (lv_at hl 0 rfl) ?_
  refine lv_bipush (v := 30) hx hb dX7_takeVerb_9 (by decide) ?_
  refine lv_icmp_lt (tgt := 20) hx hb dX7_takeVerb_11 (by decide) (fun c5 => ?_) (fun c5 => ?_)
  · have c5 : (bv).toInt < (30 : Int) := hq_lti.mp c5
    have hta := hta0 (by omega)
    refine lv_aload_n hx hb dX7_takeVerb_20 rfl (lv_at hl 1 rfl) ?_
    refine hp_callv (hp_runV (As := []) (rest := []) hx hb hml hown hts (x_next l D cs B G V n hP.1 (kb) (qb) (w) (j) (fk) (fp) (nx) (tk) (st) hy0 hy1 hy2 hc0 hp0 hA (by omega)) hZ hc0 cv_X7_42 rfl rfl ⟨Nat.le_of_ble_eq_true rfl, Nat.le_of_ble_eq_true rfl⟩ rfl hl.1 rfl (Nat.le_of_ble_eq_true rfl) dX7_takeVerb_21 ⟨(Nat.le_of_ble_eq_true rfl), (Nat.le_of_ble_eq_true rfl)⟩) hZ (fun V6 n7 _ _ hw8 hZ => ?_)
    obtain ⟨rfl, hq10, fr11, z12, z13, z14, ho15, hp16⟩ := hw8
    have b17 := hq_rng z12
    have b18 := hq_rng z13
    have b19 := hq_rng z14
    have hP := hP.trans hq10 (fun _ h => Bool.noConfusion h)
    obtain ⟨b20, b21, b22, b23⟩ := id hp16
    refine lv_aload_n hx hb dX7_takeVerb_24 rfl (lv_at hl 1 rfl) ?_
    refine lv_aload_n hx hb dX7_takeVerb_25 rfl (lv_at hl 1 rfl) ?_
    refine hp_get (v := .ref (qb)) hx hb hts hown hZ ho15 fl_X7_30 rfl dX7_takeVerb_26 ?_
    have fx24 : V6 (qb) = some (.inr (0, [.ref (qb + 1), .int (bc), .ref (qb + 14), .ref (qb + 75), .int (bv), .ref (qb + 76), .int (bl)])) := (fr11 (qb) (hq_tne hy5 hy2 (by simp))).trans (hc3)
    refine hp_get (v := .ref (qb + 14)) hx hb hts hown hZ fx24 fl_X7_83 rfl dX7_takeVerb_29 ?_
    refine lv_iload_n hx hb dX7_takeVerb_32 rfl (lv_at hl 0 rfl) ?_
    have fx25 : V6 (kb + 3) = some (.inr (9, [.ref (kb + 3 + 1), .int (nz)])) := (fr11 (kb + 3) (hq_tne hy3 hy2 (by simp))).trans (hc1)
    have fx26 : V6 (kb + 4) = some (.inl (cs 0, 12, .inl (nf))) := (fr11 (kb + 4) (hq_tne hy4 hy2 (by simp))).trans (hc2)
    have fx27 : V6 (qb + 14) = some (.inl (cs 7, 30, .inr (.inr (.inr (.inr (g2)))))) := (fr11 (qb + 14) (hq_tne hy7 hy2 (by simp))).trans (hg2)
    have pk28 := hp0.keep (fr11 (kb) (hq_tne hy0 hy2 (by simp))) (fr11 (kb + 1) (hq_tne hy1 hy2 (by simp)))
    have pk29 := hp3.keep (fun x7 (hx7 : qb + 15 ≤ x7 ∧ x7 < qb + 15 + 2 * vn.length) => fr11 x7 (by omega))
    refine hp_calli (hp_runV (As := [.ref (qb + 14), .int (bv)]) (rest := []) hx hb hml hown hts (x_isNewName l D cs B G V6 n hP.1 (kb) (qb) (w) (j + 1) (qb + 14) (qb + 15) (30) (vn) (bv) (g2) (fk) (fp) (z12) (z13) (z14) (nz) (nf) hy0 hy1 hy2 hy3 hy4 ho15 fx25 fx26 fx27 pk28 hp16 hr2 pk29 hbv (by decide) (by omega)) hZ ho15 cv_X7_72 rfl rfl ⟨Nat.le_of_ble_eq_true rfl, Nat.le_of_ble_eq_true rfl⟩ rfl hl.1 rfl (Nat.le_of_ble_eq_true rfl) dX7_takeVerb_33 ⟨(Nat.le_of_ble_eq_true rfl), (Nat.le_of_ble_eq_true rfl)⟩) hZ (fun r33 V30 n31 _ _ hw32 hZ => ?_)
    obtain ⟨rfl, hq34, fr35, z36, z37, z38, u39, ho40, ho41, ho42, hp43, hp44⟩ := hw32
    have b45 := hq_rng z36
    have b46 := hq_rng z37
    have b47 := hq_rng z38
    have hP := hP.trans hq34 (fun _ h => Bool.noConfusion h)
    have hf48 := hq_rgB hP.1 hy4 ho42
    have b49 := hq_rng r33
    refine lv_if_ne (tgt := 41) hx hb dX7_takeVerb_36 (by decide) (fun c50 => ?_) (fun c50 => ?_)
    · have c50 : ¬ (r33).toInt = (0 : Int) := fun h9 => c50 (hq_eqi.mpr h9)
      obtain ⟨b51, ⟨b52, b53⟩, b55⟩ := hx_D.neg hp43 (by omega)
      have b56 := sp_new_k (w := w) (L := vn) (j := j + 1) (by omega)
      refine lv_aload_n hx hb dX7_takeVerb_41 rfl (lv_at hl 1 rfl) ?_
      refine hp_get (v := .ref (qb)) hx hb hts hown hZ ho40 fl_X7_30 rfl dX7_takeVerb_42 ?_
      have fx57 : V30 (qb) = some (.inr (0, [.ref (qb + 1), .int (bc), .ref (qb + 14), .ref (qb + 75), .int (bv), .ref (qb + 76), .int (bl)])) := (fr35 (qb) (hq_tne hy5 hy2 (by simp)) (hq_tne hy5 hy3 (by simp)) (hq_tne hy5 hy4 (by simp))).trans (fx24)
      refine hp_get (v := .ref (qb + 14)) hx hb hts hown hZ fx57 fl_X7_83 rfl dX7_takeVerb_45 ?_
      refine lv_iload_n hx hb dX7_takeVerb_48 rfl (lv_at hl 0 rfl) ?_
      have fx58 : V30 (qb + 14) = some (.inl (cs 7, 30, .inr (.inr (.inr (.inr (g2)))))) := (fr35 (qb + 14) (hq_tne hy7 hy2 (by simp)) (hq_tne hy7 hy3 (by simp)) (hq_tne hy7 hy4 (by simp))).trans (fx27)
      have hi3 : (bv : Int32).toNatClampNeg = vn.length := by have h8 := (hq_nn (z := bv) (by omega)).1; omega
      have hla1 : g2 (bv : Int32).toNatClampNeg = some ta := by rw [hi3, hta]; exact hr2 _ (by omega)
      have pk59 := hp4.keep (fun x7 (hx7 : qb + 2 ≤ x7 ∧ x7 < qb + 377) => (fr35 x7 (by omega) (by omega) (by omega)).trans (fr11 x7 (by omega)))
      obtain ⟨oz, of9, hx1, hx2, hx3⟩ := (show hx_TS cs V30 ta 12 by rw [hta]; exact pk59.2.1 _ (by omega))
      have hyt := hBT.2.1 vn.length (by omega)
      rw [← hta] at hyt
      have hfr9 := hq_rgB hP.1 hyt.2 hx2
      obtain ⟨mz, mf, hm1, hm2, hm3, hm4, hm5⟩ := b55
      refine hp_aald (v := .ref (ta)) hx hb hZ 7 fx58 rfl (hq_in (by omega) (by omega)) (by rw [hla1]; rfl) dX7_takeVerb_49 ?_
      refine lv_aload_n hx hb dX7_takeVerb_50 rfl (lv_at hl 1 rfl) ?_
      refine hp_get (v := .ref (kb + 3)) hx hb hts hown hZ ho40 fl_X7_23 rfl dX7_takeVerb_51 ?_
      refine hp_callv (hp_runV (As := [.ref (kb + 3)]) (rest := []) hx hb hml hown hts (x_set l D cs B G V30 n hP.1 (ta) (12) (kb + 3) (12) (oz) (of9) (mz) (mf) hyt.1 hyt.2 hy4 hx1 hx2 hm1 hm2  (by omega) (by decide) (by decide) (by omega) (by omega)) hZ hx1 cv_X7_76 rfl rfl ⟨Nat.le_of_ble_eq_true rfl, Nat.le_of_ble_eq_true rfl⟩ rfl hl.1 rfl (Nat.le_of_ble_eq_true rfl) dX7_takeVerb_54 ⟨(Nat.le_of_ble_eq_true rfl), (Nat.le_of_ble_eq_true rfl)⟩) hZ (fun V63 n64 _ _ hw65 hZ => ?_)
      obtain ⟨rfl, hq67, fr68, z69, u70, ho71, ho72, hp73, hp74⟩ := hw65
      have b75 := hq_rng z69
      have hP := hP.trans hq67 (fun _ h => Bool.noConfusion h)
      have hf76 := hq_rgB hP.1 hyt.2 ho72
      refine lv_aload_n hx hb dX7_takeVerb_57 rfl (lv_at hl 1 rfl) ?_
      have fx77 : V63 (kb + 2) = some (.inr (7, [.int (z36), .int (z37), .ref (kb), .ref (qb), .int (z12), .int (z13), .int (z14), .ref (kb + 3)])) := (fr68 (kb + 2) (hq_tne hy2 hyt.1 (by simp)) (hq_tne hy2 hyt.2 (by simp))).trans (ho40)
      have pk78 := pk28.keep ((fr68 (kb) (hq_tne hy0 hyt.1 (by simp)) (hq_tne hy0 hyt.2 (by simp))).trans (fr35 (kb) (hq_tne hy0 hy2 (by simp)) (hq_tne hy0 hy3 (by simp)) (hq_tne hy0 hy4 (by simp)))) ((fr68 (kb + 1) (hq_tne hy1 hyt.1 (by simp)) (hq_tne hy1 hyt.2 (by simp))).trans (fr35 (kb + 1) (hq_tne hy1 hy2 (by simp)) (hq_tne hy1 hy3 (by simp)) (hq_tne hy1 hy4 (by simp))))
      refine hp_callv (hp_runV (As := []) (rest := []) hx hb hml hown hts (x_next l D cs B G V63 n hP.1 (kb) (qb) (w) (j + 1) (z36) (z37) (z12) (z13) (z14) hy0 hy1 hy2 fx77 pk78 hp16 (by omega)) hZ fx77 cv_X7_42 rfl rfl ⟨Nat.le_of_ble_eq_true rfl, Nat.le_of_ble_eq_true rfl⟩ rfl hl.1 rfl (Nat.le_of_ble_eq_true rfl) dX7_takeVerb_58 ⟨(Nat.le_of_ble_eq_true rfl), (Nat.le_of_ble_eq_true rfl)⟩) hZ (fun V79 n80 _ _ hw81 hZ => ?_)
      obtain ⟨rfl, hq83, fr84, z85, z86, z87, ho88, hp89⟩ := hw81
      have b90 := hq_rng z85
      have b91 := hq_rng z86
      have b92 := hq_rng z87
      have hP := hP.trans hq83 (fun _ h => Bool.noConfusion h)
      have hA93 : hx_A w (j + 2) _ _ _ := hp89
      obtain ⟨b94, b95, b96, b97⟩ := id hA93
      refine lv_aload_n hx hb dX7_takeVerb_61 rfl (lv_at hl 1 rfl) ?_
      refine hp_get (v := .ref (qb)) hx hb hts hown hZ ho88 fl_X7_30 rfl dX7_takeVerb_62 ?_
      have fx98 : V79 (qb) = some (.inr (0, [.ref (qb + 1), .int (bc), .ref (qb + 14), .ref (qb + 75), .int (bv), .ref (qb + 76), .int (bl)])) := (fr84 (qb) (hq_tne hy5 hy2 (by simp))).trans ((fr68 (qb) (hq_tne hy5 hyt.1 (by simp)) (hq_tne hy5 hyt.2 (by simp))).trans (fx57))
      refine hp_get (v := .ref (qb + 75)) hx hb hts hown hZ fx98 fl_X7_86 rfl dX7_takeVerb_65 ?_
      refine lv_iload_n hx hb dX7_takeVerb_68 rfl (lv_at hl 0 rfl) ?_
      refine lv_aload_n hx hb dX7_takeVerb_69 rfl (lv_at hl 1 rfl) ?_
      refine lv_bipush (v := 8) hx hb dX7_takeVerb_70 (by decide) ?_
      have hl99 : (8 : Int32).toInt = 8 := by decide
      have pk100 := pk78.keep (fr84 (kb) (hq_tne hy0 hy2 (by simp))) (fr84 (kb + 1) (hq_tne hy1 hy2 (by simp)))
      refine hp_calli (hp_runV (As := [.int (8)]) (rest := [.int (bv), .ref (qb + 75)]) hx hb hml hown hts (x_take l D cs B G V79 n hP.1 (kb) (qb) (w) (j + 2) (8) (8) (z36) (z37) (z85) (z86) (z87) hy0 hy1 hy2 ho88 pk100 hA93 (by decide) (by decide)) hZ ho88 cv_X7_58 rfl rfl ⟨Nat.le_of_ble_eq_true rfl, Nat.le_of_ble_eq_true rfl⟩ rfl hl.1 rfl (Nat.le_of_ble_eq_true rfl) dX7_takeVerb_72 ⟨(Nat.le_of_ble_eq_true rfl), (Nat.le_of_ble_eq_true rfl)⟩) hZ (fun r104 V101 n102 _ _ hw103 hZ => ?_)
      obtain ⟨rfl, hq105, fr106, z107, z108, z109, z110, z111, ho112, hp113, hp114⟩ := hw103
      have b115 := hq_rng z107
      have b116 := hq_rng z108
      have b117 := hq_rng z109
      have b118 := hq_rng z110
      have b119 := hq_rng z111
      have hP := hP.trans hq105 (fun _ h => Bool.noConfusion h)
      have b120 := hq_rng r104
      refine lv_if_eq (tgt := 99) hx hb dX7_takeVerb_75 (by decide) (fun c121 => ?_) (fun c121 => ?_)
      · have c121 : (r104).toInt = (0 : Int) := hq_eqi.mp c121
        have hF122 := hx_D.pos hp113 (by omega)
        have b123 := hF122.1
        have b124 := hF122.2.1
        refine lv_iconst (v := -1) hx hb dX7_takeVerb_99 (by decide) ?_
        have fx125 : V101 (qb + 75) = some (.inl (cs 1, 30, .inl (vf))) := (fr106 (qb + 75) (hq_tne hy8 hy2 (by simp))).trans ((fr84 (qb + 75) (hq_tne hy8 hy2 (by simp))).trans ((fr68 (qb + 75) (hq_tne hy8 hyt.1 (by simp)) (hq_tne hy8 hyt.2 (by simp))).trans ((fr35 (qb + 75) (hq_tne hy8 hy2 (by simp)) (hq_tne hy8 hy3 (by simp)) (hq_tne hy8 hy4 (by simp))).trans ((fr11 (qb + 75) (hq_tne hy8 hy2 (by simp))).trans (hc4)))))
        refine hp_iast hx hb hZ fx125 (hq_in (by omega) (by omega)) dX7_takeVerb_100 (fun V126 _ _ e127 o128 hZ => ?_)
        have e127 : V126 (qb + 75) = some (.inl (cs 1, 30, .inl (upd (vf) ((bv : Int32).toNatClampNeg) (-1)))) := e127
        have hl129 : (-1 : Int32).toInt = -1 := by decide
        have hP := hP.put hy8 e127 o128 (hq_c2 (by omega) (hq_upd hf_4 (hq_rng _))) rfl
        obtain ⟨g130, ge131⟩ : ∃ g9 : Nat → Int32, g9 = upd (vf) ((bv : Int32).toNatClampNeg) (-1) := ⟨_, rfl⟩
        have fx132 : V126 (qb + 75) = some (.inl (cs 1, 30, .inl (g130))) := by rw [ge131]; exact e127
        have hf133 := hq_rg2 hP.1 hy8 fx132
        refine lv_aload_n hx hb dX7_takeVerb_101 rfl (lv_at hl 1 rfl) ?_
        have fx134 : V126 (kb + 2) = some (.inr (7, [.int (z107), .int (z108), .ref (kb), .ref (qb), .int (z109), .int (z110), .int (z111), .ref (kb + 3)])) := (o128 (kb + 2) (hq_tne hy2 hy8 (by simp))).trans (ho112)
        refine hp_get (v := .ref (qb)) hx hb hts hown hZ fx134 fl_X7_30 rfl dX7_takeVerb_102 ?_
        refine lv_dup hx hb dX7_takeVerb_105 rfl ?_
        have fx135 : V126 (qb) = some (.inr (0, [.ref (qb + 1), .int (bc), .ref (qb + 14), .ref (qb + 75), .int (bv), .ref (qb + 76), .int (bl)])) := (o128 (qb) (hq_tne hy5 hy8 (by simp))).trans ((fr106 (qb) (hq_tne hy5 hy2 (by simp))).trans (fx98))
        refine hp_get (v := .int (bv)) hx hb hts hown hZ fx135 fl_X7_80 rfl dX7_takeVerb_106 ?_
        refine lv_iconst (v := 1) hx hb dX7_takeVerb_109 (by decide) ?_
        refine lv_iadd hx hb dX7_takeVerb_110 ?_
        refine lv_topi (fun y136 ey137 => ?_)
        obtain ⟨k138, hk139, b140, b141⟩ := hq_add (bv) (1)
        rw [← ey137] at hk139 b140 b141
        have hk139 : (y136).toInt = (bv).toInt + (1 : Int) + k138 * 4294967296 := hk139
        obtain rfl : k138 = 0 := by omega
        refine hp_put hx hb hts hown hZ fx135 fp_X7_80 rfl rfl (Nat.le_of_ble_eq_true rfl) dX7_takeVerb_111 (fun V142 _ _ e143 o144 hZ => ?_)
        have e143 : V142 (qb) = some (.inr (0, [.ref (qb + 1), .int (bc), .ref (qb + 14), .ref (qb + 75), .int (y136), .ref (qb + 76), .int (bl)])) := e143
        have hP := hP.put hy5 e143 o144 (hq_c6 hy6 hy7 hy8 hy9 (show 0 ≤ (bc).toInt ∧ (bc).toInt ≤ 6 by omega) (show 0 ≤ (y136).toInt ∧ (y136).toInt ≤ 30 by omega) (show 0 ≤ (bl).toInt ∧ (bl).toInt ≤ 60 by omega)) rfl
        refine lv_aload_n hx hb dX7_takeVerb_114 rfl (lv_at hl 1 rfl) ?_
        have fx145 : V142 (kb + 2) = some (.inr (7, [.int (z107), .int (z108), .ref (kb), .ref (qb), .int (z109), .int (z110), .int (z111), .ref (kb + 3)])) := (o144 (kb + 2) (hq_tne hy2 hy5 (by simp))).trans (fx134)
        refine hp_get (v := .ref (qb)) hx hb hts hown hZ fx145 fl_X7_30 rfl dX7_takeVerb_115 ?_
        refine hp_get (v := .ref (qb + 75)) hx hb hts hown hZ e143 fl_X7_86 rfl dX7_takeVerb_118 ?_
        refine lv_iload_n hx hb dX7_takeVerb_121 rfl (lv_at hl 0 rfl) ?_
        have fx146 : V142 (qb + 75) = some (.inl (cs 1, 30, .inl (g130))) := (o144 (qb + 75) (hq_tne hy8 hy5 (by simp))).trans (fx132)
        refine hp_iald hx hb hZ fx146 (hq_in (by omega) (by omega)) dX7_takeVerb_122 ?_
        refine lv_topi (fun y147 ey148 => ?_)
        have b149 := hq_rng y147
        have b150 : (y147).toInt = (-1 : Int32).toInt := by rw [ey148, ge131]; exact congrArg Int32.toInt hm_ue
        have hl151 : (-1 : Int32).toInt = -1 := by decide
        refine lv_iconst (v := -1) hx hb dX7_takeVerb_123 (by decide) ?_
        have hl152 : (-1 : Int32).toInt = -1 := by decide
        refine lv_icmp_eq (tgt := 131) hx hb dX7_takeVerb_124 (by decide) (fun c153 => ?_) (fun c153 => absurd ((Int32.toInt_inj.mp (by omega) : y147 = -1)) c153)
        refine lv_iconst (v := 0) hx hb dX7_takeVerb_131 (by decide) ?_
        have hl154 : (0 : Int32).toInt = 0 := by decide
        have fx155 : V142 (kb + 3) = some (.inr (9, [.ref (kb + 4), .int (mz)])) := (o144 (kb + 3) (hq_tne hy3 hy5 (by simp))).trans ((o128 (kb + 3) (hq_tne hy3 hy8 (by simp))).trans ((fr106 (kb + 3) (hq_tne hy3 hy2 (by simp))).trans ((fr84 (kb + 3) (hq_tne hy3 hy2 (by simp))).trans ((fr68 (kb + 3) (by omega) (hq_tne hy3 hyt.2 (by simp))).trans (hm1)))))
        have fx156 : V142 (kb + 4) = some (.inl (cs 0, 12, .inl (mf))) := (o144 (kb + 4) (hq_tne hy4 hy5 (by simp))).trans ((o128 (kb + 4) (hq_tne hy4 hy8 (by simp))).trans ((fr106 (kb + 4) (hq_tne hy4 hy2 (by simp))).trans ((fr84 (kb + 4) (hq_tne hy4 hy2 (by simp))).trans ((fr68 (kb + 4) (hq_tne hy4 hyt.1 (by simp)) (by omega)).trans (hm2)))))
        have fx157 : V142 (ta) = some (.inr (9, [.ref (ta + 1), .int (z69)])) := (o144 (ta) (hq_tne hyt.1 hy5 (by simp))).trans ((o128 (ta) (hq_tne hyt.1 hy8 (by simp))).trans ((fr106 (ta) (hq_tne hyt.1 hy2 (by simp))).trans ((fr84 (ta) (hq_tne hyt.1 hy2 (by simp))).trans (ho71))))
        have fx158 : V142 (ta + 1) = some (.inl (cs 0, 12, .inl (u70))) := (o144 (ta + 1) (hq_tne hyt.2 hy5 (by simp))).trans ((o128 (ta + 1) (hq_tne hyt.2 hy8 (by simp))).trans ((fr106 (ta + 1) (hq_tne hyt.2 hy2 (by simp))).trans ((fr84 (ta + 1) (hq_tne hyt.2 hy2 (by simp))).trans (ho72))))
        exact hp_zret hx hb hr rfl hlocks hZ ⟨rfl, hP, (fun x8 hne0 hne1 hne2 hne3 hne4 hne5 hne6 => (o144 x8 hne3).trans ((o128 x8 hne4).trans ((fr106 x8 hne0).trans ((fr84 x8 hne0).trans ((fr68 x8 hne5 hne6).trans ((fr35 x8 hne0 hne1 hne2).trans (fr11 x8 hne0))))))), z107, z108, z109, z110, z111, mz, mf, y136, g130, fx145, fx155, fx156, e143, fx146, hx_D.l (by omega) (by unfold sp_tv; (repeat (first | (rw [if_pos]; rotate_left; omega) | (rw [if_neg]; rotate_left; omega))); (try dsimp only); first | exact hF122 | exact ⟨by omega, by omega, by omega⟩), by omega, hSK0.vn (i := vn.length) (fun x7 hx7 => (o144 x7 (by omega)).trans ((o128 x7 (by omega)).trans ((fr106 x7 (by omega)).trans ((fr84 x7 (by omega)).trans ((fr68 x7 (by omega) (by omega)).trans ((fr35 x7 (by omega) (by omega) (by omega)).trans (fr11 x7 (by omega)))))))) (by omega) (by rw [← hta]; exact ⟨_, _, fx157, fx158, by omega⟩), by omega⟩ dX7_takeVerb_132
      · have c121 : ¬ (r104).toInt = (0 : Int) := fun h9 => c121 (hq_eqi.mpr h9)
        obtain ⟨b159, ⟨b160, b161, hA162⟩⟩ := hx_D.neg hp113 (by omega)
        obtain ⟨b163, b164, b165, b166⟩ := id hA162
        refine lv_aload_n hx hb dX7_takeVerb_78 rfl (lv_at hl 1 rfl) ?_
        refine lv_aload_n hx hb dX7_takeVerb_79 rfl (lv_at hl 1 rfl) ?_
        refine hp_get (v := .ref (qb)) hx hb hts hown hZ ho112 fl_X7_30 rfl dX7_takeVerb_80 ?_
        have fx167 : V101 (qb) = some (.inr (0, [.ref (qb + 1), .int (bc), .ref (qb + 14), .ref (qb + 75), .int (bv), .ref (qb + 76), .int (bl)])) := (fr106 (qb) (hq_tne hy5 hy2 (by simp))).trans (fx98)
        refine hp_get (v := .ref (qb + 1)) hx hb hts hown hZ fx167 fl_X7_68 rfl dX7_takeVerb_83 ?_
        refine lv_aload_n hx hb dX7_takeVerb_86 rfl (lv_at hl 1 rfl) ?_
        refine hp_get (v := .ref (qb)) hx hb hts hown hZ ho112 fl_X7_30 rfl dX7_takeVerb_87 ?_
        refine hp_get (v := .int (bc)) hx hb hts hown hZ fx167 fl_X7_62 rfl dX7_takeVerb_90 ?_
        have fx168 : V101 (kb + 3) = some (.inr (9, [.ref (kb + 4), .int (mz)])) := (fr106 (kb + 3) (hq_tne hy3 hy2 (by simp))).trans ((fr84 (kb + 3) (hq_tne hy3 hy2 (by simp))).trans ((fr68 (kb + 3) (by omega) (hq_tne hy3 hyt.2 (by simp))).trans (hm1)))
        have fx169 : V101 (kb + 4) = some (.inl (cs 0, 12, .inl (mf))) := (fr106 (kb + 4) (hq_tne hy4 hy2 (by simp))).trans ((fr84 (kb + 4) (hq_tne hy4 hy2 (by simp))).trans ((fr68 (kb + 4) (hq_tne hy4 hyt.1 (by simp)) (by omega)).trans (hm2)))
        have fx170 : V101 (qb + 1) = some (.inl (cs 7, 6, .inr (.inr (.inr (.inr (g1)))))) := (fr106 (qb + 1) (hq_tne hy6 hy2 (by simp))).trans ((fr84 (qb + 1) (hq_tne hy6 hy2 (by simp))).trans ((fr68 (qb + 1) (hq_tne hy6 hyt.1 (by simp)) (hq_tne hy6 hyt.2 (by simp))).trans ((fr35 (qb + 1) (hq_tne hy6 hy2 (by simp)) (hq_tne hy6 hy3 (by simp)) (hq_tne hy6 hy4 (by simp))).trans ((fr11 (qb + 1) (hq_tne hy6 hy2 (by simp))).trans (hg1)))))
        have pk171 := pk100.keep (fr106 (kb) (hq_tne hy0 hy2 (by simp))) (fr106 (kb + 1) (hq_tne hy1 hy2 (by simp)))
        have pk172 := hp2.keep (fun x7 (hx7 : qb + 2 ≤ x7 ∧ x7 < qb + 2 + 2 * cl.length) => (fr106 x7 (by omega)).trans ((fr84 x7 (by omega)).trans ((fr68 x7 (by omega) (by omega)).trans ((fr35 x7 (by omega) (by omega) (by omega)).trans (fr11 x7 (by omega))))))
        refine hp_calli (hp_runV (As := [.ref (qb + 1), .int (bc)]) (rest := [.int (bv), .ref (qb + 75)]) hx hb hml hown hts (x_takeName l D cs B G V101 n hP.1 (kb) (qb) (w) ((sp_take w 8 (j + 2)).2) (qb + 1) (qb + 2) (6) (cl) (bc) (g1) (z107) (z108) (z109) (z110) (z111) (mz) (mf) hy0 hy1 hy2 hy3 hy4 ho112 fx168 fx169 fx170 pk171 hA162 hr1 pk172 hbc (by decide) (by omega)) hZ ho112 cv_X7_90 rfl rfl ⟨Nat.le_of_ble_eq_true rfl, Nat.le_of_ble_eq_true rfl⟩ rfl hl.1 rfl (Nat.le_of_ble_eq_true rfl) dX7_takeVerb_93 ⟨(Nat.le_of_ble_eq_true rfl), (Nat.le_of_ble_eq_true rfl)⟩) hZ (fun r176 V173 n174 _ _ hw175 hZ => ?_)
        obtain ⟨rfl, hq177, fr178, z179, z180, z181, z182, z183, z184, u185, ho186, ho187, ho188, hp189, hp190⟩ := hw175
        have b191 := hq_rng z179
        have b192 := hq_rng z180
        have b193 := hq_rng z181
        have b194 := hq_rng z182
        have b195 := hq_rng z183
        have b196 := hq_rng z184
        have hP := hP.trans hq177 (fun _ h => Bool.noConfusion h)
        have hf197 := hq_rgB hP.1 hy4 ho188
        have b198 := hq_rng r176
        refine lv_goto (tgt := 100) hx hb dX7_takeVerb_96 (by decide) ?_
        have fx199 : V173 (qb + 75) = some (.inl (cs 1, 30, .inl (vf))) := (fr178 (qb + 75) (hq_tne hy8 hy2 (by simp)) (hq_tne hy8 hy3 (by simp)) (hq_tne hy8 hy4 (by simp))).trans ((fr106 (qb + 75) (hq_tne hy8 hy2 (by simp))).trans ((fr84 (qb + 75) (hq_tne hy8 hy2 (by simp))).trans ((fr68 (qb + 75) (hq_tne hy8 hyt.1 (by simp)) (hq_tne hy8 hyt.2 (by simp))).trans ((fr35 (qb + 75) (hq_tne hy8 hy2 (by simp)) (hq_tne hy8 hy3 (by simp)) (hq_tne hy8 hy4 (by simp))).trans ((fr11 (qb + 75) (hq_tne hy8 hy2 (by simp))).trans (hc4))))))
        refine hp_iast hx hb hZ fx199 (hq_in (by omega) (by omega)) dX7_takeVerb_100 (fun V200 _ _ e201 o202 hZ => ?_)
        have e201 : V200 (qb + 75) = some (.inl (cs 1, 30, .inl (upd (vf) ((bv : Int32).toNatClampNeg) (r176)))) := e201
        have hP := hP.put hy8 e201 o202 (hq_c2 (by omega) (hq_upd hf_4 (hq_rng _))) rfl
        obtain ⟨g203, ge204⟩ : ∃ g9 : Nat → Int32, g9 = upd (vf) ((bv : Int32).toNatClampNeg) (r176) := ⟨_, rfl⟩
        have fx205 : V200 (qb + 75) = some (.inl (cs 1, 30, .inl (g203))) := by rw [ge204]; exact e201
        have hf206 := hq_rg2 hP.1 hy8 fx205
        refine lv_aload_n hx hb dX7_takeVerb_101 rfl (lv_at hl 1 rfl) ?_
        have fx207 : V200 (kb + 2) = some (.inr (7, [.int (z179), .int (z180), .ref (kb), .ref (qb), .int (z181), .int (z182), .int (z183), .ref (kb + 3)])) := (o202 (kb + 2) (hq_tne hy2 hy8 (by simp))).trans (ho186)
        refine hp_get (v := .ref (qb)) hx hb hts hown hZ fx207 fl_X7_30 rfl dX7_takeVerb_102 ?_
        refine lv_dup hx hb dX7_takeVerb_105 rfl ?_
        have fx208 : V200 (qb) = some (.inr (0, [.ref (qb + 1), .int (bc), .ref (qb + 14), .ref (qb + 75), .int (bv), .ref (qb + 76), .int (bl)])) := (o202 (qb) (hq_tne hy5 hy8 (by simp))).trans ((fr178 (qb) (hq_tne hy5 hy2 (by simp)) (hq_tne hy5 hy3 (by simp)) (hq_tne hy5 hy4 (by simp))).trans (fx167))
        refine hp_get (v := .int (bv)) hx hb hts hown hZ fx208 fl_X7_80 rfl dX7_takeVerb_106 ?_
        refine lv_iconst (v := 1) hx hb dX7_takeVerb_109 (by decide) ?_
        refine lv_iadd hx hb dX7_takeVerb_110 ?_
        refine lv_topi (fun y209 ey210 => ?_)
        obtain ⟨k211, hk212, b213, b214⟩ := hq_add (bv) (1)
        rw [← ey210] at hk212 b213 b214
        have hk212 : (y209).toInt = (bv).toInt + (1 : Int) + k211 * 4294967296 := hk212
        obtain rfl : k211 = 0 := by omega
        refine hp_put hx hb hts hown hZ fx208 fp_X7_80 rfl rfl (Nat.le_of_ble_eq_true rfl) dX7_takeVerb_111 (fun V215 _ _ e216 o217 hZ => ?_)
        have e216 : V215 (qb) = some (.inr (0, [.ref (qb + 1), .int (bc), .ref (qb + 14), .ref (qb + 75), .int (y209), .ref (qb + 76), .int (bl)])) := e216
        have hP := hP.put hy5 e216 o217 (hq_c6 hy6 hy7 hy8 hy9 (show 0 ≤ (bc).toInt ∧ (bc).toInt ≤ 6 by omega) (show 0 ≤ (y209).toInt ∧ (y209).toInt ≤ 30 by omega) (show 0 ≤ (bl).toInt ∧ (bl).toInt ≤ 60 by omega)) rfl
        refine lv_aload_n hx hb dX7_takeVerb_114 rfl (lv_at hl 1 rfl) ?_
        have fx218 : V215 (kb + 2) = some (.inr (7, [.int (z179), .int (z180), .ref (kb), .ref (qb), .int (z181), .int (z182), .int (z183), .ref (kb + 3)])) := (o217 (kb + 2) (hq_tne hy2 hy5 (by simp))).trans (fx207)
        refine hp_get (v := .ref (qb)) hx hb hts hown hZ fx218 fl_X7_30 rfl dX7_takeVerb_115 ?_
        refine hp_get (v := .ref (qb + 75)) hx hb hts hown hZ e216 fl_X7_86 rfl dX7_takeVerb_118 ?_
        refine lv_iload_n hx hb dX7_takeVerb_121 rfl (lv_at hl 0 rfl) ?_
        have fx219 : V215 (qb + 75) = some (.inl (cs 1, 30, .inl (g203))) := (o217 (qb + 75) (hq_tne hy8 hy5 (by simp))).trans (fx205)
        refine hp_iald hx hb hZ fx219 (hq_in (by omega) (by omega)) dX7_takeVerb_122 ?_
        refine lv_topi (fun y220 ey221 => ?_)
        have b222 := hq_rng y220
        have b223 : (y220).toInt = (r176 : Int32).toInt := by rw [ey221, ge204]; exact congrArg Int32.toInt hm_ue
        refine lv_iconst (v := -1) hx hb dX7_takeVerb_123 (by decide) ?_
        refine lv_icmp_eq (tgt := 131) hx hb dX7_takeVerb_124 (by decide) (fun c224 => ?_) (fun c224 => ?_)
        · have c224 : (y220).toInt = (-1 : Int) := hq_eqi.mp c224
          have hF225 := hx_D.pos hp189 (by omega)
          have b226 := hF225.1
          have b227 := hF225.2.1
          refine lv_iconst (v := 0) hx hb dX7_takeVerb_131 (by decide) ?_
          have hl228 : (0 : Int32).toInt = 0 := by decide
          have fx229 : V215 (kb + 3) = some (.inr (9, [.ref (kb + 4), .int (z184)])) := (o217 (kb + 3) (hq_tne hy3 hy5 (by simp))).trans ((o202 (kb + 3) (hq_tne hy3 hy8 (by simp))).trans (ho187))
          have fx230 : V215 (kb + 4) = some (.inl (cs 0, 12, .inl (u185))) := (o217 (kb + 4) (hq_tne hy4 hy5 (by simp))).trans ((o202 (kb + 4) (hq_tne hy4 hy8 (by simp))).trans (ho188))
          have fx231 : V215 (ta) = some (.inr (9, [.ref (ta + 1), .int (z69)])) := (o217 (ta) (hq_tne hyt.1 hy5 (by simp))).trans ((o202 (ta) (hq_tne hyt.1 hy8 (by simp))).trans ((fr178 (ta) (hq_tne hyt.1 hy2 (by simp)) (by omega) (hq_tne hyt.1 hy4 (by simp))).trans ((fr106 (ta) (hq_tne hyt.1 hy2 (by simp))).trans ((fr84 (ta) (hq_tne hyt.1 hy2 (by simp))).trans (ho71)))))
          have fx232 : V215 (ta + 1) = some (.inl (cs 0, 12, .inl (u70))) := (o217 (ta + 1) (hq_tne hyt.2 hy5 (by simp))).trans ((o202 (ta + 1) (hq_tne hyt.2 hy8 (by simp))).trans ((fr178 (ta + 1) (hq_tne hyt.2 hy2 (by simp)) (hq_tne hyt.2 hy3 (by simp)) (by omega)).trans ((fr106 (ta + 1) (hq_tne hyt.2 hy2 (by simp))).trans ((fr84 (ta + 1) (hq_tne hyt.2 hy2 (by simp))).trans (ho72)))))
          exact hp_zret hx hb hr rfl hlocks hZ ⟨rfl, hP, (fun x8 hne0 hne1 hne2 hne3 hne4 hne5 hne6 => (o217 x8 hne3).trans ((o202 x8 hne4).trans ((fr178 x8 hne0 hne1 hne2).trans ((fr106 x8 hne0).trans ((fr84 x8 hne0).trans ((fr68 x8 hne5 hne6).trans ((fr35 x8 hne0 hne1 hne2).trans (fr11 x8 hne0)))))))), z179, z180, z181, z182, z183, z184, u185, y209, g203, fx218, fx229, fx230, e216, fx219, hx_D.l (by omega) (by unfold sp_tv; (repeat (first | (rw [if_pos]; rotate_left; omega) | (rw [if_neg]; rotate_left; omega))); (try dsimp only); first | exact hF225 | exact ⟨by omega, by omega, by omega⟩), by omega, hSK0.vn (i := vn.length) (fun x7 hx7 => (o217 x7 (by omega)).trans ((o202 x7 (by omega)).trans ((fr178 x7 (by omega) (by omega) (by omega)).trans ((fr106 x7 (by omega)).trans ((fr84 x7 (by omega)).trans ((fr68 x7 (by omega) (by omega)).trans ((fr35 x7 (by omega) (by omega) (by omega)).trans (fr11 x7 (by omega))))))))) (by omega) (by rw [← hta]; exact ⟨_, _, fx231, fx232, by omega⟩), by omega⟩ dX7_takeVerb_132
        · have c224 : ¬ (y220).toInt = (-1 : Int) := fun h9 => c224 (hq_eqi.mpr h9)
          obtain ⟨b233, ⟨b234, b235, hA236⟩, b237⟩ := hx_D.neg hp189 (by omega)
          obtain ⟨b238, b239, b240, b241⟩ := id hA236
          refine lv_iconst (v := 1) hx hb dX7_takeVerb_127 (by decide) ?_
          refine lv_goto (tgt := 132) hx hb dX7_takeVerb_128 (by decide) ?_
          have hl242 : (1 : Int32).toInt = 1 := by decide
          have fx243 : V215 (kb + 3) = some (.inr (9, [.ref (kb + 4), .int (z184)])) := (o217 (kb + 3) (hq_tne hy3 hy5 (by simp))).trans ((o202 (kb + 3) (hq_tne hy3 hy8 (by simp))).trans (ho187))
          have fx244 : V215 (kb + 4) = some (.inl (cs 0, 12, .inl (u185))) := (o217 (kb + 4) (hq_tne hy4 hy5 (by simp))).trans ((o202 (kb + 4) (hq_tne hy4 hy8 (by simp))).trans (ho188))
          have fx245 : V215 (ta) = some (.inr (9, [.ref (ta + 1), .int (z69)])) := (o217 (ta) (hq_tne hyt.1 hy5 (by simp))).trans ((o202 (ta) (hq_tne hyt.1 hy8 (by simp))).trans ((fr178 (ta) (hq_tne hyt.1 hy2 (by simp)) (by omega) (hq_tne hyt.1 hy4 (by simp))).trans ((fr106 (ta) (hq_tne hyt.1 hy2 (by simp))).trans ((fr84 (ta) (hq_tne hyt.1 hy2 (by simp))).trans (ho71)))))
          have fx246 : V215 (ta + 1) = some (.inl (cs 0, 12, .inl (u70))) := (o217 (ta + 1) (hq_tne hyt.2 hy5 (by simp))).trans ((o202 (ta + 1) (hq_tne hyt.2 hy8 (by simp))).trans ((fr178 (ta + 1) (hq_tne hyt.2 hy2 (by simp)) (hq_tne hyt.2 hy3 (by simp)) (by omega)).trans ((fr106 (ta + 1) (hq_tne hyt.2 hy2 (by simp))).trans ((fr84 (ta + 1) (hq_tne hyt.2 hy2 (by simp))).trans (ho72)))))
          exact hp_zret hx hb hr rfl hlocks hZ ⟨rfl, hP, (fun x8 hne0 hne1 hne2 hne3 hne4 hne5 hne6 => (o217 x8 hne3).trans ((o202 x8 hne4).trans ((fr178 x8 hne0 hne1 hne2).trans ((fr106 x8 hne0).trans ((fr84 x8 hne0).trans ((fr68 x8 hne5 hne6).trans ((fr35 x8 hne0 hne1 hne2).trans (fr11 x8 hne0)))))))), z179, z180, z181, z182, z183, z184, u185, y209, g203, fx218, fx243, fx244, e216, fx219, hx_D.r (by omega) (by unfold sp_tv; (repeat (first | (rw [if_pos]; rotate_left; omega) | (rw [if_neg]; rotate_left; omega))); (try dsimp only); exact ⟨by first | rfl | omega, ⟨by omega, by omega, hA236⟩, by omega, ⟨_, _, fx245, fx246, by omega, by omega, fun k9 hk9 => by rw [hp74 k9 (by omega)]; exact hm5 k9 (by omega)⟩, by omega, ⟨r176, by rw [ge204, show (bv : Int32).toNatClampNeg = vn.length from (by have h8 := (hq_nn (z := bv) (by omega)).1; omega)], by omega⟩⟩), by omega, hSK0.vn (i := vn.length) (fun x7 hx7 => (o217 x7 (by omega)).trans ((o202 x7 (by omega)).trans ((fr178 x7 (by omega) (by omega) (by omega)).trans ((fr106 x7 (by omega)).trans ((fr84 x7 (by omega)).trans ((fr68 x7 (by omega) (by omega)).trans ((fr35 x7 (by omega) (by omega) (by omega)).trans (fr11 x7 (by omega))))))))) (by omega) (by rw [← hta]; exact ⟨_, _, fx245, fx246, by omega⟩), by omega⟩ dX7_takeVerb_132
    · have c50 : (r33).toInt = (0 : Int) := hq_eqi.mp c50
      have hF247 := hx_D.pos hp43 (by omega)
      have b248 := hF247.1
      have b249 := hF247.2.1
      refine lv_iconst (v := 0) hx hb dX7_takeVerb_39 (by decide) ?_
      have hl250 : (0 : Int32).toInt = 0 := by decide
      have fx251 : V30 (qb) = some (.inr (0, [.ref (qb + 1), .int (bc), .ref (qb + 14), .ref (qb + 75), .int (bv), .ref (qb + 76), .int (bl)])) := (fr35 (qb) (hq_tne hy5 hy2 (by simp)) (hq_tne hy5 hy3 (by simp)) (hq_tne hy5 hy4 (by simp))).trans (fx24)
      have fx252 : V30 (qb + 75) = some (.inl (cs 1, 30, .inl (vf))) := (fr35 (qb + 75) (hq_tne hy8 hy2 (by simp)) (hq_tne hy8 hy3 (by simp)) (hq_tne hy8 hy4 (by simp))).trans ((fr11 (qb + 75) (hq_tne hy8 hy2 (by simp))).trans (hc4))
      have pk253 := hp4.keep (fun x7 (hx7 : qb + 2 ≤ x7 ∧ x7 < qb + 377) => (fr35 x7 (by omega) (by omega) (by omega)).trans (fr11 x7 (by omega)))
      exact hp_zret hx hb hr rfl hlocks hZ ⟨rfl, hP, (fun x8 hne0 hne1 hne2 hne3 hne4 hne5 hne6 => (fr35 x8 hne0 hne1 hne2).trans (fr11 x8 hne0)), z36, z37, z12, z13, z14, z38, u39, bv, vf, ho40, ho41, ho42, fx251, fx252, hx_D.l (by omega) (by unfold sp_tv; (repeat (first | (rw [if_pos]; rotate_left; omega) | (rw [if_neg]; rotate_left; omega))); (try dsimp only); first | exact hF247 | exact ⟨by omega, by omega, by omega⟩), by omega, pk253, by omega⟩ dX7_takeVerb_40
  · have c5 : ¬ (bv).toInt < (30 : Int) := fun h9 => c5 (hq_lti.mpr h9)
    refine lv_aload_n hx hb dX7_takeVerb_14 rfl (lv_at hl 1 rfl) ?_
    refine lv_iconst (v := 4) hx hb dX7_takeVerb_15 (by decide) ?_
    have hl254 : (4 : Int32).toInt = 4 := by decide
    refine hp_calli (hp_runV (As := [.int (4)]) (rest := []) hx hb hml hown hts (x_refuse l D cs B G V n hP.1 (kb) (qb) (4) (fk) (fp) (nx) (tk) (st) hy2 hc0  ) hZ hc0 cv_X7_65 rfl rfl ⟨Nat.le_of_ble_eq_true rfl, Nat.le_of_ble_eq_true rfl⟩ rfl hl.1 rfl (Nat.le_of_ble_eq_true rfl) dX7_takeVerb_16 ⟨(Nat.le_of_ble_eq_true rfl), (Nat.le_of_ble_eq_true rfl)⟩) hZ (fun r258 V255 n256 _ _ hw257 hZ => ?_)
    obtain ⟨rfl, hq259, fr260, ho261, hp262⟩ := hw257
    have hP := hP.trans hq259 (fun _ h => Bool.noConfusion h)
    have b263 := hq_rng r258
    have fx264 : V255 (kb + 3) = some (.inr (9, [.ref (kb + 3 + 1), .int (nz)])) := (fr260 (kb + 3) (hq_tne hy3 hy2 (by simp))).trans (hc1)
    have fx265 : V255 (kb + 4) = some (.inl (cs 0, 12, .inl (nf))) := (fr260 (kb + 4) (hq_tne hy4 hy2 (by simp))).trans (hc2)
    have fx266 : V255 (qb) = some (.inr (0, [.ref (qb + 1), .int (bc), .ref (qb + 14), .ref (qb + 75), .int (bv), .ref (qb + 76), .int (bl)])) := (fr260 (qb) (hq_tne hy5 hy2 (by simp))).trans (hc3)
    have hl267 : (4 : Int32).toInt = 4 := by decide
    have fx268 : V255 (qb + 75) = some (.inl (cs 1, 30, .inl (vf))) := (fr260 (qb + 75) (hq_tne hy8 hy2 (by simp))).trans (hc4)
    have pk269 := hp4.keep (fun x7 (hx7 : qb + 2 ≤ x7 ∧ x7 < qb + 377) => fr260 x7 (by omega))
    exact hp_zret hx hb hr (hq_nzi (by omega) (by omega)) hlocks hZ ⟨rfl, hP, (fun x8 hne0 hne1 hne2 hne3 hne4 hne5 hne6 => fr260 x8 hne0), 4, st, nx, tk, st, nz, nf, bv, vf, ho261, fx264, fx265, fx266, fx268, hx_D.l (by omega) (by unfold sp_tv; (repeat (first | (rw [if_pos]; rotate_left; omega) | (rw [if_neg]; rotate_left; omega))); (try dsimp only); first | exact hA | exact ⟨by omega, by omega, by omega⟩), by omega, pk269, by omega⟩ dX7_takeVerb_19

set_option maxHeartbeats 4000000 in
set_option maxRecDepth 100000 in
theorem x_clearB (l : Launch) (D : va_G) (cs : Nat → ClassId) (B : Nat) (G : hq_G) (V : hp_V) (n : Nat) (hI : hq_I cs G V) (qb : Nat) (bb : Nat) (bc : Int32) (bv : Int32) (bl : Int32) (hy0 : G (qb) = some (6, bb, 0, 0)) (hy1 : G (qb + 1) = some (4, 7, 6, 0)) (hy2 : G (qb + 14) = some (4, 7, 30, 0)) (hy3 : G (qb + 75) = some (2, 3, 30, 0)) (hy4 : G (qb + 76) = some (4, 6, 60, bb)) (hc0 : V (qb) = some (.inr (0, [.ref (qb + 1), .int (bc), .ref (qb + 14), .ref (qb + 75), .int (bv), .ref (qb + 76), .int (bl)]))) (hb9 : (0 ≤ bc.toInt ∧ bc.toInt ≤ 6) ∧ (0 ≤ bv.toInt ∧ bv.toInt ≤ 30) ∧ (0 ≤ bl.toInt ∧ bl.toInt ≤ 60)) : hp_M l yX0_clear cX0_clear 1 none ({ frames := 1, cells := 0, slots := 0, locals := 21 }) D cs B V n [.ref (qb)] (hp_QV D cs B (fun V' n' => n = n' ∧ hq_P cs G (fun _ => true) V V' ∧ (∀ x, x ≠ qb → V' x = V x) ∧ V' (qb) = some (.inr (0, [.ref (qb + 1), .int (0), .ref (qb + 14), .ref (qb + 75), .int (0), .ref (qb + 76), .int (0)])))) 0 0 := by
  refine hp_walk (R0 := RX0) (by decide) rfl ?_ (Nat.le_of_ble_eq_true rfl)
  intro p e s m below meth c ls hx hb hr hts hown hlocks hin hml hZ hl
  have hP : hq_P cs G (fun _ => true) V V := hq_P.rf hI
  have hl : lv_has ls 1 [(0, .ref (qb))] := hl
  have hb_bc := hq_rng bc
  have hb_bv := hq_rng bv
  have hb_bl := hq_rng bl
  refine lv_aload_n hx hb dX0_clear_0 rfl (lv_at hl 0 rfl) ?_
  refine lv_iconst (v := 0) hx hb dX0_clear_1 (by decide) ?_
  refine hp_put hx hb hts hown hZ hc0 fp_X0_34 rfl rfl (Nat.le_of_ble_eq_true rfl) dX0_clear_2 (fun V1 _ _ e2 o3 hZ => ?_)
  have e2 : V1 (qb) = some (.inr (0, [.ref (qb + 1), .int (0), .ref (qb + 14), .ref (qb + 75), .int (bv), .ref (qb + 76), .int (bl)])) := e2
  have hP := hP.put hy0 e2 o3 (hq_c6 hy1 hy2 hy3 hy4 (show 0 ≤ (0 : Int) ∧ (0 : Int) ≤ 6 by omega) (show 0 ≤ (bv).toInt ∧ (bv).toInt ≤ 30 by omega) (show 0 ≤ (bl).toInt ∧ (bl).toInt ≤ 60 by omega)) rfl
  refine lv_aload_n hx hb dX0_clear_5 rfl (lv_at hl 0 rfl) ?_
  refine lv_iconst (v := 0) hx hb dX0_clear_6 (by decide) ?_
  refine hp_put hx hb hts hown hZ e2 fp_X0_38 rfl rfl (Nat.le_of_ble_eq_true rfl) dX0_clear_7 (fun V4 _ _ e5 o6 hZ => ?_)
  have e5 : V4 (qb) = some (.inr (0, [.ref (qb + 1), .int (0), .ref (qb + 14), .ref (qb + 75), .int (0), .ref (qb + 76), .int (bl)])) := e5
  have hP := hP.put hy0 e5 o6 (hq_c6 hy1 hy2 hy3 hy4 (show 0 ≤ (0 : Int) ∧ (0 : Int) ≤ 6 by omega) (show 0 ≤ (0 : Int) ∧ (0 : Int) ≤ 30 by omega) (show 0 ≤ (bl).toInt ∧ (bl).toInt ≤ 60 by omega)) rfl
  refine lv_aload_n hx hb dX0_clear_10 rfl (lv_at hl 0 rfl) ?_
  refine lv_iconst (v := 0) hx hb dX0_clear_11 (by decide) ?_
  refine hp_put hx hb hts hown hZ e5 fp_X0_41 rfl rfl (Nat.le_of_ble_eq_true rfl) dX0_clear_12 (fun V7 _ _ e8 o9 hZ => ?_)
  have e8 : V7 (qb) = some (.inr (0, [.ref (qb + 1), .int (0), .ref (qb + 14), .ref (qb + 75), .int (0), .ref (qb + 76), .int (0)])) := e8
  have hP := hP.put hy0 e8 o9 (hq_c6 hy1 hy2 hy3 hy4 (show 0 ≤ (0 : Int) ∧ (0 : Int) ≤ 6 by omega) (show 0 ≤ (0 : Int) ∧ (0 : Int) ≤ 30 by omega) (show 0 ≤ (0 : Int) ∧ (0 : Int) ≤ 60 by omega)) rfl
  exact hp_vret hx hb hr hlocks hZ ⟨rfl, hP, (fun x8 hne0 => (o9 x8 hne0).trans ((o6 x8 hne0).trans (o3 x8 hne0))), e8⟩ dX0_clear_15

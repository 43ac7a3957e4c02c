set_option maxHeartbeats 4000000 in
set_option maxRecDepth 100000 in
theorem x_plain (l : Launch) (D : va_G) (cs : Nat → ClassId) (B : Nat) (G : hq_G) (V : hp_V) (n : Nat) (hI : hq_I cs G V) (fl : Nat) (mk : Nat) (md : Nat) (mh : Nat) (pt : Nat) (ch : Nat) (qt : Nat) (bb : Nat) (t9 : Nat) (w : sp_W) (bk : sp_B) (c9 : Int) (v : Int32) (te : Int32) (pe : Int32) (wz : Int32) (bc : Int32) (bv : Int32) (bl : Int32) (nz : Int32) (cz : Int32) (cf : Nat → Int32) (vf : Nat → Int32) (gf : Nat → Option Nat) (hy0 : G (mk) = some (11, 0, 0, 0)) (hy1 : G (md) = some (8, 4, 0, 0)) (hy2 : G (mh) = some (8, 2, 0, 0)) (hy3 : G (pt) = some (8, 2, 0, 0)) (hy4 : G (ch) = some (0, 30, 0, 0)) (hy5 : G (ch + 1) = some (1, 30, 0, 0)) (hy6 : G (fl) = some (8, 4, 0, 0)) (hy7 : G (fl + 1) = some (4, 4, 4, 0)) (hc0 : V (mk) = some (.inr (6, [.ref (md), .int (wz), .ref (mh), .ref (pt), .ref (ch)]))) (hc1 : V (qt) = some (.inr (0, [.ref (qt + 1), .int (bc), .ref (qt + 14), .ref (qt + 75), .int (bv), .ref (qt + 76), .int (bl)]))) (hc2 : V (qt + 75) = some (.inl (cs 1, 30, .inl (vf)))) (hc3 : V (fl) = some (.inr (3, [.ref (fl + 1), .int (nz)]))) (hc4 : V (fl + 1) = some (.inl (cs 4, 4, .inr (.inr (.inr (.inr (gf))))))) (hc5 : V (ch) = some (.inr (9, [.ref (ch + 1), .int (cz)]))) (hc6 : V (ch + 1) = some (.inl (cs 0, 30, .inl (cf)))) (hp0 : hx_LL cs V (qt + 77) w bk.2.2.2) (hp1 : hx_NL cs V (qt + 15) 30 w bk.2.1) (hp2 : hx_BS cs V qt) (hbl : bl.toInt = (bk.2.2.2.length : Int)) (hgd : sp_good w bk) (hgd2 : sp_good2 bk) (hBT : hx_BT G qt bb) (hv : 0 ≤ v.toInt ∧ v.toInt < 30) (hc9 : (vf v.toNatClampNeg).toInt = c9) (ht9 : bk.2.1[v.toNatClampNeg]? = some t9) (hg8 : sp_g8 w bk) (hnl : (sp_nm w t9).length ≤ 12) (hsh : md = mk + 1 ∧ mh = mk + 19 ∧ pt = mk + 29 ∧ ch = mk + 39) (hne : mk + 46 ≤ qt) (hb60 : (bk.2.2.2.length : Int) ≤ 60) (hcz : 0 ≤ cz.toInt ∧ cz.toInt ≤ 30) (hgf : ∀ j, j < 4 → gf j = some (fl + 2 + 4 * j)) (hFT : hx_FT G fl) (hfl : fl = mk + 1) : hp_M l yX6_makePlain cX6_makePlain 9 none ({ frames := 5, cells := 0, slots := 0, locals := 121 }) D cs B V n [.ref (mk), .ref (qt), .ref (fl), .int (v), .int (te), .int (pe)] (hp_QV D cs B (fun V' n' => n = n' ∧ hq_P cs G (fun _ => true) V V' ∧ (∀ x, x ≠ mk → x ≠ ch → x ≠ ch + 1 → (x < fl ∨ fl + 18 ≤ x) → V' x = V x) ∧ (∃ nz1 : Int32, ∃ wz1 : Int32, ∃ cz1 : Int32, ∃ cf1 : Nat → Int32, ∃ L : List (List Int), V' (fl) = some (.inr (3, [.ref (fl + 1), .int (nz1)])) ∧ V' (fl + 1) = some (.inl (cs 4, 4, .inr (.inr (.inr (.inr (gf)))))) ∧ V' (mk) = some (.inr (6, [.ref (md), .int (wz1), .ref (mh), .ref (pt), .ref (ch)])) ∧ V' (ch) = some (.inr (9, [.ref (ch + 1), .int (cz1)])) ∧ V' (ch + 1) = some (.inl (cs 0, 30, .inl (cf1))) ∧ (nz1.toInt = (L.length : Int)) ∧ (hx_FM cs V' fl L) ∧ (sp_FM (sp_nf 5 v.toInt c9 te.toInt pe.toInt bk.2.2.2 0) (sp_nf 1 v.toInt c9 te.toInt pe.toInt bk.2.2.2 0) (sp_ex w v.toInt c9 te.toInt pe.toInt bk.2.2.2 2) (sp_sa w (-1) (-1) bk.2.2.2 0 (sp_U w bk (sp_nm w t9) (sp_nf 0 v.toInt c9 te.toInt pe.toInt bk.2.2.2 0) (sp_nf 1 v.toInt c9 te.toInt pe.toInt bk.2.2.2 0))) L) ∧ (L.length ≤ 2) ∧ (∀ u ∈ L, u.length ≤ 30)))) 0 0 := by
  refine hp_walk (R0 := RX6) (by decide) rfl ?_ (Nat.le_of_ble_eq_true rfl)
  intro p e s m below meth c ls hx hb hr hts hown hlocks hin hml hZ hl
  have hP : hq_P cs G (fun _ => true) V V := hq_P.rf hI
  have hl : lv_has ls 9 [(0, .ref (mk)), (1, .ref (qt)), (2, .ref (fl)), (3, .int (v)), (4, .int (te)), (5, .int (pe))] := hl
  have hb_v := hq_rng v
  have hb_te := hq_rng te
  have hb_pe := hq_rng pe
  have hb_wz := hq_rng wz
  have hb_bc := hq_rng bc
  have hb_bv := hq_rng bv
  have hb_bl := hq_rng bl
  have hb_nz := hq_rng nz
  have hb_cz := hq_rng cz
  have hf_6 := hq_rgB hI hy5 hc6
  obtain ⟨⟨g1, hg1, hr1⟩, ⟨g2, hg2, hr2⟩, ⟨g3, hg3, hr3⟩⟩ := id hp2
  have hll9 := hp0.1
  have hb60n : bk.2.2.2.length ≤ 60 := by omega
  have hvl := (List.getElem?_eq_some_iff.mp ht9).1
  refine lv_aload_n hx hb dX6_makePlain_0 rfl (lv_at hl 2 rfl) ?_
  refine hp_callv (hp_runV (As := []) (rest := []) hx hb hml hown hts (x_flclear l D cs B G V n hP.1 (fl) (nz) hy6 hy7 hc3  ) hZ hc3 cv_X6_59 rfl rfl ⟨Nat.le_of_ble_eq_true rfl, Nat.le_of_ble_eq_true rfl⟩ rfl hl.1 rfl (Nat.le_of_ble_eq_true rfl) dX6_makePlain_1 ⟨(Nat.le_of_ble_eq_true rfl), (Nat.le_of_ble_eq_true rfl)⟩) hZ (fun V1 n2 _ _ hw3 hZ => ?_)
  obtain ⟨rfl, hq5, fr6, ho7⟩ := hw3
  have hP := hP.trans hq5 (fun _ h => Bool.noConfusion h)
  refine lv_aload_n hx hb dX6_makePlain_4 rfl (lv_at hl 1 rfl) ?_
  refine lv_iconst (v := 5) hx hb dX6_makePlain_5 (by decide) ?_
  refine lv_iconst (v := 0) hx hb dX6_makePlain_6 (by decide) ?_
  refine lv_iload_n hx hb dX6_makePlain_7 rfl (lv_at hl 3 rfl) ?_
  refine lv_iload hx hb dX6_makePlain_8 (lv_at hl 4 rfl) ?_
  refine lv_iload hx hb dX6_makePlain_10 (lv_at hl 5 rfl) ?_
  have fx8 : V1 (qt) = some (.inr (0, [.ref (qt + 1), .int (bc), .ref (qt + 14), .ref (qt + 75), .int (bv), .ref (qt + 76), .int (bl)])) := (fr6 (qt) (by omega)).trans (hc1)
  have fx9 : V1 (qt + 75) = some (.inl (cs 1, 30, .inl (vf))) := (fr6 (qt + 75) (by omega)).trans (hc2)
  have hl10 : (5 : Int32).toInt = 5 := by decide
  have hl11 : (0 : Int32).toInt = 0 := by decide
  have pk12 := hp0.keep (fun x7 (hx7 : qt + 77 ≤ x7 ∧ x7 < qt + 77 + 5 * bk.2.2.2.length) => fr6 x7 (by omega))
  have pk13 := hp2.keep (fr6 (qt + 1) (by omega)) (fr6 (qt + 14) (by omega)) (fr6 (qt + 76) (by omega))
  refine hp_calli (hp_runV (As := [.int (5), .int (0), .int (v), .int (te), .int (pe)]) (rest := []) hx hb hml hown hts (x_nf l D cs B G V1 n hP.1 (qt) (c9) (w) (bk) (5) (0) (v) (te) (pe) (bc) (bv) (bl) (vf)  fx8 fx9 pk12 pk13 hbl (by omega) (by omega) hc9) hZ fx8 cv_X6_33 rfl rfl ⟨Nat.le_of_ble_eq_true rfl, Nat.le_of_ble_eq_true rfl⟩ rfl hl.1 rfl (Nat.le_of_ble_eq_true rfl) dX6_makePlain_12 ⟨(Nat.le_of_ble_eq_true rfl), (Nat.le_of_ble_eq_true rfl)⟩) hZ (fun r17 V14 n15 _ _ hw16 hZ => ?_)
  obtain ⟨rfl, rfl, hp20⟩ := hw16
  have b21 := hq_rng r17
  have hf5 := hp20
  rw [show (5 : Int32).toInt = 5 by decide, show (0 : Int32).toNatClampNeg = 0 by decide, show (0 : Int32).toInt = 0 by decide, List.drop_zero] at hf5
  have hrg5 := sp_nf_rg (k := 5) (v := v.toInt) (c := c9) (t := te.toInt) (p := pe.toInt) bk.2.2.2 0 (by omega)
  have hrh5 : (r17).toInt = -1 ∨ (0 ≤ (r17).toInt ∧ (r17).toInt < (bk.2.2.2.length : Int)) := by rcases hrg5 with g9 | ⟨g8, g9, -⟩ <;> omega
  have hrq5 : -1 ≤ (r17).toInt ∧ (r17).toInt < (bk.2.2.2.length : Int) := by rcases hrh5 with g9 | g9 <;> omega
  refine lv_iconst (v := -1) hx hb dX6_makePlain_15 (by decide) ?_
  refine lv_icmp_eq (tgt := 20) hx hb dX6_makePlain_16 (by decide) (fun c22 => ?_) (fun c22 => ?_)
  · have c22 : (r17).toInt = (-1 : Int) := hq_eqi.mp c22
    refine lv_aload_n hx hb dX6_makePlain_20 rfl (lv_at hl 0 rfl) ?_
    refine lv_aload_n hx hb dX6_makePlain_21 rfl (lv_at hl 1 rfl) ?_
    refine lv_aload_n hx hb dX6_makePlain_22 rfl (lv_at hl 2 rfl) ?_
    refine lv_iload_n hx hb dX6_makePlain_23 rfl (lv_at hl 3 rfl) ?_
    refine lv_iload hx hb dX6_makePlain_24 (lv_at hl 4 rfl) ?_
    refine lv_iload hx hb dX6_makePlain_26 (lv_at hl 5 rfl) ?_
    have fx23 : V1 (fl + 1) = some (.inl (cs 4, 4, .inr (.inr (.inr (.inr (gf)))))) := (fr6 (fl + 1) (hq_tne hy7 hy6 (by simp))).trans (hc4)
    have hl24 : (0 : Int32).toInt = 0 := by decide
    have fx31 : V1 (mk) = some (.inr (6, [.ref (md), .int (wz), .ref (mh), .ref (pt), .ref (ch)])) := (fr6 (mk) (hq_tne hy0 hy6 (by simp))).trans (hc0)
    refine hp_callv (hp_runV (As := [.ref (qt), .ref (fl), .int (v), .int (te), .int (pe)]) (rest := []) hx hb hml hown hts (x_addExc l D cs B G V1 n hP.1 (mk) (qt) (fl) (bb) (w) (bk) (c9) (v) (te) (pe) (bc) (bv) (bl) (0) (vf) (gf) hy6 hy7 fx8 fx9 ho7 fx23 pk12 pk13 hbl hgd hgd2 hBT (by omega) hc9 hgf hFT (by decide) (by omega) hb60) hZ fx31 cv_X6_100 rfl rfl ⟨Nat.le_of_ble_eq_true rfl, Nat.le_of_ble_eq_true rfl⟩ rfl hl.1 rfl (Nat.le_of_ble_eq_true rfl) dX6_makePlain_28 ⟨(Nat.le_of_ble_eq_true rfl), (Nat.le_of_ble_eq_true rfl)⟩) hZ (fun V25 n26 _ _ hw27 hZ => ?_)
    obtain ⟨rfl, hq29, fr30, z32, u33, ho34, ho35, hp36, hp37, hp38, hp39⟩ := hw27
    have b40 := hq_rng z32
    have hP := hP.trans hq29 (fun _ h => Bool.noConfusion h)
    have hLn := hp36
    have hLE := hp38
    have hL2 := hp39
    refine lv_aload_n hx hb dX6_makePlain_31 rfl (lv_at hl 1 rfl) ?_
    refine lv_iconst (v := 1) hx hb dX6_makePlain_32 (by decide) ?_
    refine lv_iconst (v := 0) hx hb dX6_makePlain_33 (by decide) ?_
    refine lv_iload_n hx hb dX6_makePlain_34 rfl (lv_at hl 3 rfl) ?_
    refine lv_iload hx hb dX6_makePlain_35 (lv_at hl 4 rfl) ?_
    refine lv_iload hx hb dX6_makePlain_37 (lv_at hl 5 rfl) ?_
    have fx41 : V25 (qt) = some (.inr (0, [.ref (qt + 1), .int (bc), .ref (qt + 14), .ref (qt + 75), .int (bv), .ref (qt + 76), .int (bl)])) := (fr30 (qt) (by omega)).trans (fx8)
    have fx42 : V25 (qt + 75) = some (.inl (cs 1, 30, .inl (vf))) := (fr30 (qt + 75) (by omega)).trans (fx9)
    have hl43 : (1 : Int32).toInt = 1 := by decide
    have hl44 : (0 : Int32).toInt = 0 := by decide
    have pk45 := pk12.keep (fun x7 (hx7 : qt + 77 ≤ x7 ∧ x7 < qt + 77 + 5 * bk.2.2.2.length) => fr30 x7 (by omega))
    have pk46 := pk13.keep (fr30 (qt + 1) (by omega)) (fr30 (qt + 14) (by omega)) (fr30 (qt + 76) (by omega))
    refine hp_calli (hp_runV (As := [.int (1), .int (0), .int (v), .int (te), .int (pe)]) (rest := []) hx hb hml hown hts (x_nf l D cs B G V25 n hP.1 (qt) (c9) (w) (bk) (1) (0) (v) (te) (pe) (bc) (bv) (bl) (vf)  fx41 fx42 pk45 pk46 hbl (by omega) (by omega) hc9) hZ fx41 cv_X6_33 rfl rfl ⟨Nat.le_of_ble_eq_true rfl, Nat.le_of_ble_eq_true rfl⟩ rfl hl.1 rfl (Nat.le_of_ble_eq_true rfl) dX6_makePlain_39 ⟨(Nat.le_of_ble_eq_true rfl), (Nat.le_of_ble_eq_true rfl)⟩) hZ (fun r50 V47 n48 _ _ hw49 hZ => ?_)
    obtain ⟨rfl, rfl, hp53⟩ := hw49
    have b54 := hq_rng r50
    have hf1 := hp53
    rw [show (1 : Int32).toInt = 1 by decide, show (0 : Int32).toNatClampNeg = 0 by decide, show (0 : Int32).toInt = 0 by decide, List.drop_zero] at hf1
    have hrg1 := sp_nf_rg (k := 1) (v := v.toInt) (c := c9) (t := te.toInt) (p := pe.toInt) bk.2.2.2 0 (by omega)
    have hrh1 : (r50).toInt = -1 ∨ (0 ≤ (r50).toInt ∧ (r50).toInt < (bk.2.2.2.length : Int)) := by rcases hrg1 with g9 | ⟨g8, g9, -⟩ <;> omega
    have hrq1 : -1 ≤ (r50).toInt ∧ (r50).toInt < (bk.2.2.2.length : Int) := by rcases hrh1 with g9 | g9 <;> omega
    refine lv_istore (lv' := [(6, .int (r50)), (0, .ref (mk)), (1, .ref (qt)), (2, .ref (fl)), (3, .int (v)), (4, .int (te)), (5, .int (pe))]) hx hb dX6_makePlain_42 hl (by decide) rfl (fun ls hl => ?_)
    refine lv_aload_n hx hb dX6_makePlain_44 rfl (lv_at hl 3 rfl) ?_
    obtain ⟨it9, hit9⟩ : ∃ t, t = fl + 2 + 4 * (z32 : Int32).toNatClampNeg := ⟨_, rfl⟩
    have hzit9 := (hq_nn (z := z32) (by omega)).1
    have hyit9 := hFT it9 (z32 : Int32).toNatClampNeg (by omega) hit9
    refine hp_callq (hp_runV (As := []) (rest := []) hx hb hml hown hts (x_flopen l D cs B G V25 n hP.1 (fl) (it9) (z32) (gf) hy6 hy7 hyit9.1 hyit9.2.1 hyit9.2.2.1 hyit9.2.2.2 ho34 ho35  hgf hit9 (by omega)) hZ ho34 cv_X6_73 rfl rfl ⟨Nat.le_of_ble_eq_true rfl, Nat.le_of_ble_eq_true rfl⟩ rfl hl.1 rfl (Nat.le_of_ble_eq_true rfl) dX6_makePlain_45 ⟨(Nat.le_of_ble_eq_true rfl), (Nat.le_of_ble_eq_true rfl)⟩) hZ (fun r58 V55 n56 _ _ hw57 hZ => ?_)
    obtain ⟨rfl, hq59, fr60, ho61, ho62, hp63⟩ := hw57
    have hP := hP.trans hq59 (fun _ h => Bool.noConfusion h)
    subst hp63
    refine W.eq (g2 := F0 m 48 ls [.ref (it9)]) rfl ?_
    refine lv_astore (lv' := [(7, .ref (it9)), (6, .int (r50)), (0, .ref (mk)), (1, .ref (qt)), (2, .ref (fl)), (3, .int (v)), (4, .int (te)), (5, .int (pe))]) hx hb dX6_makePlain_48 hl (by decide) rfl (fun ls hl => ?_)
    refine lv_aload_n hx hb dX6_makePlain_50 rfl (lv_at hl 4 rfl) ?_
    have fx64 : V55 (fl) = some (.inr (3, [.ref (fl + 1), .int (z32)])) := (fr60 (fl) (hq_tne hy6 hyit9.1 (by simp)) (hq_tne hy6 hyit9.2.1 (by simp))).trans (ho34)
    refine hp_get (v := .int (z32)) hx hb hts hown hZ fx64 fl_X6_62 rfl dX6_makePlain_51 ?_
    refine lv_if_gt (tgt := 68) hx hb dX6_makePlain_54 (by decide) (fun c65 => ?_) (fun c65 => ?_)
    · have c65 : (0 : Int) < (z32).toInt := hq_lti.mp c65
      have fx66 : V55 (mk) = some (.inr (6, [.ref (md), .int (wz), .ref (mh), .ref (pt), .ref (ch)])) := (fr60 (mk) (hq_tne hy0 hyit9.1 (by simp)) (hq_tne hy0 hyit9.2.1 (by simp))).trans ((fr30 (mk) (by omega)).trans (fx31))
      have fx67 : V55 (ch) = some (.inr (9, [.ref (ch + 1), .int (cz)])) := (fr60 (ch) (hq_tne hy4 hyit9.1 (by simp)) (by omega)).trans ((fr30 (ch) (by omega)).trans ((fr6 (ch) (hq_tne hy4 hy6 (by simp))).trans (hc5)))
      have fx68 : V55 (ch + 1) = some (.inl (cs 0, 30, .inl (cf))) := (fr60 (ch + 1) (hq_tne hy5 hyit9.1 (by simp)) (hq_tne hy5 hyit9.2.1 (by simp))).trans ((fr30 (ch + 1) (by omega)).trans ((fr6 (ch + 1) (hq_tne hy5 hy6 (by simp))).trans (hc6)))
      have pk69 := hp37.keep (fun x7 (hx7 : fl + 2 ≤ x7 ∧ x7 < fl + 2 + 4 * u33.length) => fr60 x7 (by omega) (by omega))
      have fx70 : V55 (fl + 1) = some (.inl (cs 4, 4, .inr (.inr (.inr (.inr (gf)))))) := (fr60 (fl + 1) (hq_tne hy7 hyit9.1 (by simp)) (hq_tne hy7 hyit9.2.1 (by simp))).trans (ho35)
      exact hp_vret hx hb hr hlocks hZ ⟨rfl, hP, (fun x8 hne0 hne1 hne2 hne3 => (fr60 x8 (by omega) (by omega)).trans ((fr30 x8 hne3).trans (fr6 x8 (by omega)))), z32, wz, cz, cf, u33, fx64, fx70, fx66, fx67, fx68, hLn, pk69, Or.inr (Or.inl ⟨by omega, (fun g9 => by have h9 := congrArg List.length (hLE.trans g9); have h8 : ([] : List (List Int)).length = 0 := rfl; omega), hLE⟩), hL2, (fun u9 hu9 => by have h9 : u9 ∈ (sp_ex w v.toInt c9 te.toInt pe.toInt bk.2.2.2 2) := (by rw [← hLE]; exact hu9); exact sp_exb_le hg8 h9)⟩ dX6_makePlain_68
    · have c65 : ¬ (0 : Int) < (z32).toInt := fun h9 => c65 (hq_lti.mpr h9)
      have hL0 : u33 = [] := List.eq_nil_of_length_eq_zero (by omega)
      rw [hL0] at hLE
      refine lv_iload hx hb dX6_makePlain_57 (lv_at hl 1 rfl) ?_
      refine lv_iconst (v := -1) hx hb dX6_makePlain_59 (by decide) ?_
      refine lv_icmp_eq (tgt := 68) hx hb dX6_makePlain_60 (by decide) (fun c71 => ?_) (fun c71 => ?_)
      · have c71 : (r50).toInt = (-1 : Int) := hq_eqi.mp c71
        have fx72 : V55 (mk) = some (.inr (6, [.ref (md), .int (wz), .ref (mh), .ref (pt), .ref (ch)])) := (fr60 (mk) (hq_tne hy0 hyit9.1 (by simp)) (hq_tne hy0 hyit9.2.1 (by simp))).trans ((fr30 (mk) (by omega)).trans (fx31))
        have fx73 : V55 (ch) = some (.inr (9, [.ref (ch + 1), .int (cz)])) := (fr60 (ch) (hq_tne hy4 hyit9.1 (by simp)) (by omega)).trans ((fr30 (ch) (by omega)).trans ((fr6 (ch) (hq_tne hy4 hy6 (by simp))).trans (hc5)))
        have fx74 : V55 (ch + 1) = some (.inl (cs 0, 30, .inl (cf))) := (fr60 (ch + 1) (hq_tne hy5 hyit9.1 (by simp)) (hq_tne hy5 hyit9.2.1 (by simp))).trans ((fr30 (ch + 1) (by omega)).trans ((fr6 (ch + 1) (hq_tne hy5 hy6 (by simp))).trans (hc6)))
        have fx75 : V55 (fl + 1) = some (.inl (cs 4, 4, .inr (.inr (.inr (.inr (gf)))))) := (fr60 (fl + 1) (hq_tne hy7 hyit9.1 (by simp)) (hq_tne hy7 hyit9.2.1 (by simp))).trans (ho35)
        exact hp_vret hx hb hr hlocks hZ ⟨rfl, hP, (fun x8 hne0 hne1 hne2 hne3 => (fr60 x8 (by omega) (by omega)).trans ((fr30 x8 hne3).trans (fr6 x8 (by omega)))), z32, wz, cz, cf, [], fx64, fx75, fx72, fx73, fx74, by have h9 := hLn; rw [hL0] at h9; exact h9, hx_FM.nil, Or.inr (Or.inr (Or.inl ⟨by omega, hLE.symm, by omega, rfl⟩)), by decide, (fun u9 hu9 => by cases hu9)⟩ dX6_makePlain_68
      · have c71 : ¬ (r50).toInt = (-1 : Int) := fun h9 => c71 (hq_eqi.mpr h9)
        refine lv_aload hx hb dX6_makePlain_63 (lv_at hl 0 rfl) ?_
        refine lv_ifnonnull (tgt := 69) hx hb dX6_makePlain_65 (by decide) ?_
        refine lv_aload_n hx hb dX6_makePlain_69 rfl (lv_at hl 3 rfl) ?_
        refine lv_iconst (v := 0) hx hb dX6_makePlain_70 (by decide) ?_
        refine lv_iconst (v := 0) hx hb dX6_makePlain_71 (by decide) ?_
        refine lv_iload_n hx hb dX6_makePlain_72 rfl (lv_at hl 5 rfl) ?_
        refine lv_iload hx hb dX6_makePlain_73 (lv_at hl 6 rfl) ?_
        refine lv_iload hx hb dX6_makePlain_75 (lv_at hl 7 rfl) ?_
        have fx76 : V55 (qt) = some (.inr (0, [.ref (qt + 1), .int (bc), .ref (qt + 14), .ref (qt + 75), .int (bv), .ref (qt + 76), .int (bl)])) := (fr60 (qt) (by omega) (by omega)).trans (fx41)
        have fx77 : V55 (qt + 75) = some (.inl (cs 1, 30, .inl (vf))) := (fr60 (qt + 75) (by omega) (by omega)).trans (fx42)
        have hl78 : (0 : Int32).toInt = 0 := by decide
        have hl79 : (0 : Int32).toInt = 0 := by decide
        have pk80 := pk45.keep (fun x7 (hx7 : qt + 77 ≤ x7 ∧ x7 < qt + 77 + 5 * bk.2.2.2.length) => fr60 x7 (by omega) (by omega))
        have pk81 := pk46.keep (fr60 (qt + 1) (by omega) (by omega)) (fr60 (qt + 14) (by omega) (by omega)) (fr60 (qt + 76) (by omega) (by omega))
        refine hp_calli (hp_runV (As := [.int (0), .int (0), .int (v), .int (te), .int (pe)]) (rest := []) hx hb hml hown hts (x_nf l D cs B G V55 n hP.1 (qt) (c9) (w) (bk) (0) (0) (v) (te) (pe) (bc) (bv) (bl) (vf)  fx76 fx77 pk80 pk81 hbl (by omega) (by omega) hc9) hZ fx76 cv_X6_33 rfl rfl ⟨Nat.le_of_ble_eq_true rfl, Nat.le_of_ble_eq_true rfl⟩ rfl hl.1 rfl (Nat.le_of_ble_eq_true rfl) dX6_makePlain_77 ⟨(Nat.le_of_ble_eq_true rfl), (Nat.le_of_ble_eq_true rfl)⟩) hZ (fun r85 V82 n83 _ _ hw84 hZ => ?_)
        obtain ⟨rfl, rfl, hp88⟩ := hw84
        have b89 := hq_rng r85
        have hf0 := hp88
        rw [show (0 : Int32).toInt = 0 by decide, show (0 : Int32).toNatClampNeg = 0 by decide, List.drop_zero] at hf0
        have hrg0 := sp_nf_rg (k := 0) (v := v.toInt) (c := c9) (t := te.toInt) (p := pe.toInt) bk.2.2.2 0 (by omega)
        have hrh0 : (r85).toInt = -1 ∨ (0 ≤ (r85).toInt ∧ (r85).toInt < (bk.2.2.2.length : Int)) := by rcases hrg0 with g9 | ⟨g8, g9, -⟩ <;> omega
        have hrq0 : -1 ≤ (r85).toInt ∧ (r85).toInt < (bk.2.2.2.length : Int) := by rcases hrh0 with g9 | g9 <;> omega
        have hst0 : ∀ x, 0 ≤ (r85).toInt → bk.2.2.2[(r85).toInt.toNat]? = some x → x.1 = 0 := fun x9 h0 hx9 => by rcases hrg0 with g9 | ⟨g8, g9, x8, g7, g6⟩; (· omega); (· rw [show ((sp_nf 0 v.toInt c9 te.toInt pe.toInt bk.2.2.2 0) - 0).toNat = (r85).toInt.toNat by omega] at g7; cases g7.symm.trans hx9; exact g6.1)
        refine lv_istore (lv' := [(8, .int (r85)), (7, .ref (it9)), (6, .int (r50)), (0, .ref (mk)), (1, .ref (qt)), (2, .ref (fl)), (3, .int (v)), (4, .int (te)), (5, .int (pe))]) hx hb dX6_makePlain_80 hl (by decide) rfl (fun ls hl => ?_)
        refine lv_aload_n hx hb dX6_makePlain_82 rfl (lv_at hl 4 rfl) ?_
        refine lv_iload_n hx hb dX6_makePlain_83 rfl (lv_at hl 6 rfl) ?_
        refine lv_iload hx hb dX6_makePlain_84 (lv_at hl 0 rfl) ?_
        refine lv_aload hx hb dX6_makePlain_86 (lv_at hl 1 rfl) ?_
        refine hp_get (v := .ref (it9 + 1)) hx hb hts hown hZ ho61 fl_X6_86 rfl dX6_makePlain_88 ?_
        obtain ⟨-, g90, eV91, hf92⟩ := hq_o1 hP.1 hyit9.2.2.1
        have hl93 : (0 : Int32).toInt = 0 := by decide
        have pk94 := hp1.keep (fun x7 (hx7 : qt + 15 ≤ x7 ∧ x7 < qt + 15 + 2 * bk.2.1.length) => (fr60 x7 (by omega) (by omega)).trans ((fr30 x7 (by omega)).trans (fr6 x7 (by omega))))
        refine hp_calli (hp_runV (As := [.int (v), .int (r85), .ref (it9 + 1)]) (rest := []) hx hb hml hown hts (x_ps l D cs B G V55 n hP.1 (qt) (it9 + 1) (bb) (t9) (w) (bk) (v) (r85) (bc) (bv) (bl) (0) (g90) hyit9.2.1 hyit9.2.2.1 fx76 ho62 eV91 pk80 pk94 pk81 hbl hgd hgd2 hBT ht9 (by omega) hrh0 hst0 (by decide) (by omega)) hZ fx76 cv_X6_103 rfl rfl ⟨Nat.le_of_ble_eq_true rfl, Nat.le_of_ble_eq_true rfl⟩ rfl hl.1 rfl (Nat.le_of_ble_eq_true rfl) dX6_makePlain_91 ⟨(Nat.le_of_ble_eq_true rfl), (Nat.le_of_ble_eq_true rfl)⟩) hZ (fun r98 V95 n96 _ _ hw97 hZ => ?_)
        obtain ⟨rfl, hq99, fr100, z101, u102, ho103, ho104, hp105, hp106, hp107⟩ := hw97
        have b108 := hq_rng z101
        have hP := hP.trans hq99 (fun _ h => Bool.noConfusion h)
        have hf109 := hq_rgB hP.1 hyit9.2.2.1 ho104
        have b110 := hq_rng r98
        have hps := hp105
        rw [hf0] at hps
        have hps1 := hps.1
        have b111 := hp107
        have hsl := (sp_U_len hg8 hnl (sp_nf 0 v.toInt c9 te.toInt pe.toInt bk.2.2.2 0) (sp_nf 1 v.toInt c9 te.toInt pe.toInt bk.2.2.2 0)).1
        refine lv_if_eq (tgt := 104) hx hb dX6_makePlain_94 (by decide) (fun c112 => ?_) (fun c112 => ?_)
        · have c112 : (r98).toInt = (0 : Int) := hq_eqi.mp c112
          refine lv_aload hx hb dX6_makePlain_104 (lv_at hl 1 rfl) ?_
          have fx113 : V95 (it9) = some (.inr (2, [.ref (it9 + 1), .ref (it9 + 3), .int (0)])) := (fr100 (it9) (hq_tne hyit9.1 hyit9.2.1 (by simp)) (hq_tne hyit9.1 hyit9.2.2.1 (by simp))).trans (ho61)
          refine hp_get (v := .ref (it9 + 1)) hx hb hts hown hZ fx113 fl_X6_86 rfl dX6_makePlain_106 ?_
          refine lv_aload_n hx hb dX6_makePlain_109 rfl (lv_at hl 4 rfl) ?_
          have fx114 : V95 (qt) = some (.inr (0, [.ref (qt + 1), .int (bc), .ref (qt + 14), .ref (qt + 75), .int (bv), .ref (qt + 76), .int (bl)])) := (fr100 (qt) (by omega) (by omega)).trans (fx76)
          refine hp_get (v := .ref (qt + 76)) hx hb hts hown hZ fx114 fl_X6_43 rfl dX6_makePlain_110 ?_
          refine lv_iload hx hb dX6_makePlain_113 (lv_at hl 2 rfl) ?_
          have fx115 : V95 (qt + 76) = some (.inl (cs 6, 60, .inr (.inr (.inr (.inr (g3)))))) := (fr100 (qt + 76) (by omega) (by omega)).trans ((fr60 (qt + 76) (by omega) (by omega)).trans ((fr30 (qt + 76) (by omega)).trans ((fr6 (qt + 76) (by omega)).trans (hg3))))
          have hixla9 : 0 ≤ (r50).toInt ∧ (r50).toInt < (bk.2.2.2.length : Int) := by omega
          obtain ⟨la9, hla9⟩ : ∃ ta, ta = qt + 77 + 5 * (r50).toNatClampNeg := ⟨_, rfl⟩
          have hiila9 : ((r50).toNatClampNeg : Int) = (r50).toInt := (hq_nn (by omega)).1.symm
          have hla91 : g3 (r50).toNatClampNeg = some la9 := by rw [hla9]; exact hr3 _ (by omega)
          obtain ⟨xla9, hxla9⟩ : ∃ t, bk.2.2.2[(r50).toNatClampNeg]? = some t := ⟨_, List.getElem?_eq_getElem (by omega)⟩
          have pk116 := pk80.keep (fun x7 (hx7 : qt + 77 ≤ x7 ∧ x7 < qt + 77 + 5 * bk.2.2.2.length) => fr100 x7 (by omega) (by omega))
          obtain ⟨ak, ao, at9, ap, ah, aht, apa, ala, ha1, ha2, ha3, ha4, ha5, ha6, ha7, hlt1, hlt2⟩ := (show hx_LN cs V95 la9 w xla9 by rw [hla9]; exact pk116.2 _ _ hxla9)
          obtain ⟨fz, ff, hfz1, hfz2, hfz3, hfz4, hfz5⟩ := hlt1.rp
          obtain ⟨sz, sf, hsz1, hsz2, hsz3, hsz4, hsz5⟩ := hlt2.rp
          have hfzl := hfz5.1
          have hszl := hsz5.1
          obtain ⟨hgl1, hgl2, hgl3⟩ := hgd.1 _ _ hxla9
          obtain ⟨hgm1, hgm2, hgm3, hgm4⟩ := hgd2 _ _ hxla9
          have hyl := hBT.2.2 (r50).toNatClampNeg (by omega)
          rw [← hla9] at hyl
          have hfrf := hq_rgB hP.1 hyl.2.2.1 hfz2
          have hfrs := hq_rgB hP.1 hyl.2.2.2.2 hsz2
          have hfela9 := (show sp_rp fz ff (sp_F w xla9) from hfz5).1
          have hsela9 := (show sp_rp sz sf (sp_S2 w xla9) from hsz5).1
          refine hp_aald (v := .ref (la9)) hx hb hZ 6 fx115 rfl (hq_in (by omega) (by omega)) (by rw [hla91]; rfl) dX6_makePlain_115 ?_
          refine hp_get (v := .ref (la9 + 1)) hx hb hts hown hZ ha1 fl_X6_107 rfl dX6_makePlain_116 ?_
          refine hp_calli (hp_runV (As := [.ref (la9 + 1)]) (rest := []) hx hb hml hown hts (x_addA l D cs B G V95 n hP.1 (it9 + 1) (30) (la9 + 1) (8) (z101) (u102) ((sp_stm w bk (sp_nm w t9) (sp_nf 0 v.toInt c9 te.toInt pe.toInt bk.2.2.2 0))) (fz) (ff) ((sp_F w xla9)) hyit9.2.1 hyit9.2.2.1 hyl.2.2.1 ho103 ho104 hfz1 hfz2  hps hfz5 (by omega) (by omega) (by decide) (by decide) (by omega)) hZ ho103 cv_X6_89 rfl rfl ⟨Nat.le_of_ble_eq_true rfl, Nat.le_of_ble_eq_true rfl⟩ rfl hl.1 rfl (Nat.le_of_ble_eq_true rfl) dX6_makePlain_119 ⟨(Nat.le_of_ble_eq_true rfl), (Nat.le_of_ble_eq_true rfl)⟩) hZ (fun r120 V117 n118 _ _ hw119 hZ => ?_)
          obtain ⟨rfl, hq121, fr122, z123, u124, ho125, ho126, hp127, hp128⟩ := hw119
          have b129 := hq_rng z123
          have hP := hP.trans hq121 (fun _ h => Bool.noConfusion h)
          have hf130 := hq_rgB hP.1 hyit9.2.2.1 ho126
          have b131 := hq_rng r120
          have hap : sp_rp z123 u124 ((sp_stm w bk (sp_nm w t9) (sp_nf 0 v.toInt c9 te.toInt pe.toInt bk.2.2.2 0)) ++ sp_F w xla9) := by rcases hp127 with g9 | g9; (· exact g9.2.2); (· exfalso; have g8 := g9.1; omega)
          have b132 := hp128
          have hend : sp_rp z123 u124 (sp_U w bk (sp_nm w t9) (sp_nf 0 v.toInt c9 te.toInt pe.toInt bk.2.2.2 0) (sp_nf 1 v.toInt c9 te.toInt pe.toInt bk.2.2.2 0)) := by unfold sp_U; rw [sp_end_y (by omega) (by rw [← hf1]; exact hxla9)]; exact hap
          have hend1 := hend.1
          have hul := sp_U_le hg8 hnl (sp_nf 0 v.toInt c9 te.toInt pe.toInt bk.2.2.2 0) (sp_nf 1 v.toInt c9 te.toInt pe.toInt bk.2.2.2 0)
          refine lv_pop hx hb dX6_makePlain_122 rfl ?_
          refine lv_aload hx hb dX6_makePlain_123 (lv_at hl 1 rfl) ?_
          refine lv_iload hx hb dX6_makePlain_125 (lv_at hl 2 rfl) ?_
          obtain ⟨-, g133, eV134, hf135⟩ := hq_o2 hP.1 hyit9.2.2.2
          have fx136 : V117 (it9) = some (.inr (2, [.ref (it9 + 1), .ref (it9 + 3), .int (0)])) := (fr122 (it9) (hq_tne hyit9.1 hyit9.2.1 (by simp)) (hq_tne hyit9.1 hyit9.2.2.1 (by simp))).trans (fx113)
          have hl137 : (0 : Int32).toInt = 0 := by decide
          refine hp_callv (hp_runV (As := [.int (r50)]) (rest := []) hx hb hml hown hts (x_addLine l D cs B G V117 n hP.1 (it9) (r50) (0) (g133) hyit9.1 hyit9.2.1 hyit9.2.2.1 hyit9.2.2.2 fx136 eV134  (by omega)) hZ fx136 cv_X6_77 rfl rfl ⟨Nat.le_of_ble_eq_true rfl, Nat.le_of_ble_eq_true rfl⟩ rfl hl.1 rfl (Nat.le_of_ble_eq_true rfl) dX6_makePlain_127 ⟨(Nat.le_of_ble_eq_true rfl), (Nat.le_of_ble_eq_true rfl)⟩) hZ (fun V138 n139 _ _ hw140 hZ => ?_)
          obtain ⟨rfl, hq142, fr143, z144, u145, ho146, ho147, hp148⟩ := hw140
          have b149 := hq_rng z144
          have hP := hP.trans hq142 (fun _ h => Bool.noConfusion h)
          have hf150 := hq_rg2 hP.1 hyit9.2.2.2 ho147
          have b151 := hp148
          refine lv_aload hx hb dX6_makePlain_130 (lv_at hl 1 rfl) ?_
          refine lv_aload_n hx hb dX6_makePlain_132 rfl (lv_at hl 3 rfl) ?_
          refine lv_aload_n hx hb dX6_makePlain_133 rfl (lv_at hl 4 rfl) ?_
          refine lv_aload hx hb dX6_makePlain_134 (lv_at hl 1 rfl) ?_
          refine hp_get (v := .ref (it9 + 1)) hx hb hts hown hZ ho146 fl_X6_86 rfl dX6_makePlain_136 ?_
          refine lv_iconst (v := -1) hx hb dX6_makePlain_139 (by decide) ?_
          refine lv_iconst (v := -1) hx hb dX6_makePlain_140 (by decide) ?_
          have fx152 : V138 (mk) = some (.inr (6, [.ref (md), .int (wz), .ref (mh), .ref (pt), .ref (ch)])) := (fr143 (mk) (hq_tne hy0 hyit9.1 (by simp)) (hq_tne hy0 hyit9.2.2.2 (by simp))).trans ((fr122 (mk) (hq_tne hy0 hyit9.2.1 (by simp)) (hq_tne hy0 hyit9.2.2.1 (by simp))).trans ((fr100 (mk) (hq_tne hy0 hyit9.2.1 (by simp)) (hq_tne hy0 hyit9.2.2.1 (by simp))).trans ((fr60 (mk) (hq_tne hy0 hyit9.1 (by simp)) (hq_tne hy0 hyit9.2.1 (by simp))).trans ((fr30 (mk) (by omega)).trans (fx31)))))
          have fx153 : V138 (qt) = some (.inr (0, [.ref (qt + 1), .int (bc), .ref (qt + 14), .ref (qt + 75), .int (bv), .ref (qt + 76), .int (bl)])) := (fr143 (qt) (by omega) (by omega)).trans ((fr122 (qt) (by omega) (by omega)).trans (fx114))
          have fx154 : V138 (it9 + 1) = some (.inr (9, [.ref (it9 + 2), .int (z123)])) := (fr143 (it9 + 1) (hq_tne hyit9.2.1 hyit9.1 (by simp)) (hq_tne hyit9.2.1 hyit9.2.2.2 (by simp))).trans (ho125)
          have fx155 : V138 (it9 + 2) = some (.inl (cs 0, 30, .inl (u124))) := (fr143 (it9 + 2) (hq_tne hyit9.2.2.1 hyit9.1 (by simp)) (hq_tne hyit9.2.2.1 hyit9.2.2.2 (by simp))).trans (ho126)
          have fx156 : V138 (ch) = some (.inr (9, [.ref (ch + 1), .int (cz)])) := (fr143 (ch) (hq_tne hy4 hyit9.1 (by simp)) (hq_tne hy4 hyit9.2.2.2 (by simp))).trans ((fr122 (ch) (by omega) (hq_tne hy4 hyit9.2.2.1 (by simp))).trans ((fr100 (ch) (by omega) (hq_tne hy4 hyit9.2.2.1 (by simp))).trans ((fr60 (ch) (hq_tne hy4 hyit9.1 (by simp)) (by omega)).trans ((fr30 (ch) (by omega)).trans ((fr6 (ch) (hq_tne hy4 hy6 (by simp))).trans (hc5))))))
          have fx157 : V138 (ch + 1) = some (.inl (cs 0, 30, .inl (cf))) := (fr143 (ch + 1) (hq_tne hy5 hyit9.1 (by simp)) (hq_tne hy5 hyit9.2.2.2 (by simp))).trans ((fr122 (ch + 1) (hq_tne hy5 hyit9.2.1 (by simp)) (by omega)).trans ((fr100 (ch + 1) (hq_tne hy5 hyit9.2.1 (by simp)) (by omega)).trans ((fr60 (ch + 1) (hq_tne hy5 hyit9.1 (by simp)) (hq_tne hy5 hyit9.2.1 (by simp))).trans ((fr30 (ch + 1) (by omega)).trans ((fr6 (ch + 1) (hq_tne hy5 hy6 (by simp))).trans (hc6))))))
          have hl158 : (-1 : Int32).toInt = -1 := by decide
          have hl159 : (-1 : Int32).toInt = -1 := by decide
          have pk160 := pk116.keep (fun x7 (hx7 : qt + 77 ≤ x7 ∧ x7 < qt + 77 + 5 * bk.2.2.2.length) => (fr143 x7 (by omega) (by omega)).trans (fr122 x7 (by omega) (by omega)))
          have pk161 := pk81.keep ((fr143 (qt + 1) (by omega) (by omega)).trans ((fr122 (qt + 1) (by omega) (by omega)).trans (fr100 (qt + 1) (by omega) (by omega)))) ((fr143 (qt + 14) (by omega) (by omega)).trans ((fr122 (qt + 14) (by omega) (by omega)).trans (fr100 (qt + 14) (by omega) (by omega)))) ((fr143 (qt + 76) (by omega) (by omega)).trans ((fr122 (qt + 76) (by omega) (by omega)).trans (fr100 (qt + 76) (by omega) (by omega))))
          refine hp_calll (hp_runV (As := [.ref (qt), .ref (it9 + 1), .int (-1), .int (-1)]) (rest := [.ref (it9)]) hx hb hml hown hts (x_sall l D cs B G V138 n hP.1 (mk) (md) (mh) (pt) (ch) (qt) (it9 + 1) (bb) (w) (bk) (wz) (-1) (-1) (bc) (bv) (bl) (z123) (u124) (cz) (cf) ((sp_U w bk (sp_nm w t9) (sp_nf 0 v.toInt c9 te.toInt pe.toInt bk.2.2.2 0) (sp_nf 1 v.toInt c9 te.toInt pe.toInt bk.2.2.2 0))) hy0 hy1 hy2 hy3 hy4 hy5 hyit9.2.1 hyit9.2.2.1 fx152 fx153 fx154 fx155 fx156 fx157 pk160 pk161 hbl hgd hgd2 hBT hend (by omega) (by omega) hsh) hZ fx152 cv_X6_110 rfl rfl ⟨Nat.le_of_ble_eq_true rfl, Nat.le_of_ble_eq_true rfl⟩ rfl hl.1 rfl (Nat.le_of_ble_eq_true rfl) dX6_makePlain_141 ⟨(Nat.le_of_ble_eq_true rfl), (Nat.le_of_ble_eq_true rfl)⟩) hZ (fun r165 V162 n163 _ _ hw164 hZ => ?_)
          obtain ⟨rfl, hq166, fr167, z168, z169, u170, z171, u172, ho173, ho174, ho175, ho176, ho177, hp178, hp179, hp180⟩ := hw164
          have b181 := hq_rng z168
          have b182 := hq_rng z169
          have b183 := hq_rng z171
          have hP := hP.trans hq166 (fun _ h => Bool.noConfusion h)
          have hf184 := hq_rgB hP.1 hyit9.2.2.1 ho175
          have hf185 := hq_rgB hP.1 hy5 ho177
          have hsl0 := hp178
          rw [show (-1 : Int32).toInt = -1 by decide] at hsl0
          have b186 := hp180
          have fx187 : V162 (it9) = some (.inr (2, [.ref (it9 + 1), .ref (it9 + 3), .int (z144)])) := (fr167 (it9) (hq_tne hyit9.1 hy0 (by simp)) (hq_tne hyit9.1 hy4 (by simp)) (hq_tne hyit9.1 hy5 (by simp)) (hq_tne hyit9.1 hyit9.2.1 (by simp)) (hq_tne hyit9.1 hyit9.2.2.1 (by simp))).trans (ho146)
          have fx188 : V162 (it9 + 3) = some (.inl (cs 1, 120, .inl (u145))) := (fr167 (it9 + 3) (hq_tne hyit9.2.2.2 hy0 (by simp)) (hq_tne hyit9.2.2.2 hy4 (by simp)) (hq_tne hyit9.2.2.2 hy5 (by simp)) (hq_tne hyit9.2.2.2 hyit9.2.1 (by simp)) (hq_tne hyit9.2.2.2 hyit9.2.2.1 (by simp))).trans (ho147)
          refine hp_callv (hp_runV (As := [.long (r165)]) (rest := []) hx hb hml hown hts (x_addBits l D cs B G V162 n hP.1 (it9) (r165) (z144) (u145) hyit9.1 hyit9.2.1 hyit9.2.2.1 hyit9.2.2.2 fx187 fx188  (by omega)) hZ fx187 cv_X6_114 rfl rfl ⟨Nat.le_of_ble_eq_true rfl, Nat.le_of_ble_eq_true rfl⟩ rfl hl.1 rfl (Nat.le_of_ble_eq_true rfl) dX6_makePlain_144 ⟨(Nat.le_of_ble_eq_true rfl), (Nat.le_of_ble_eq_true rfl)⟩) hZ (fun V189 n190 _ _ hw191 hZ => ?_)
          obtain ⟨rfl, hq193, fr194, z195, u196, ho197, ho198, hp199⟩ := hw191
          have b200 := hq_rng z195
          have hP := hP.trans hq193 (fun _ h => Bool.noConfusion h)
          have hf201 := hq_rg2 hP.1 hyit9.2.2.2 ho198
          have b202 := hp199
          refine lv_aload_n hx hb dX6_makePlain_147 rfl (lv_at hl 3 rfl) ?_
          have fx203 : V189 (mk) = some (.inr (6, [.ref (md), .int (z168), .ref (mh), .ref (pt), .ref (ch)])) := (fr194 (mk) (hq_tne hy0 hyit9.1 (by simp)) (hq_tne hy0 hyit9.2.2.2 (by simp))).trans (ho173)
          refine hp_get (v := .int (z168)) hx hb hts hown hZ fx203 fl_X6_118 rfl dX6_makePlain_148 ?_
          refine lv_if_eq (tgt := 158) hx hb dX6_makePlain_151 (by decide) (fun c204 => ?_) (fun c204 => ?_)
          · have c204 : (z168).toInt = (0 : Int) := hq_eqi.mp c204
            have hmk0 : ∀ u1, (sp_sa w (-1) (-1) bk.2.2.2 0 (sp_U w bk (sp_nm w t9) (sp_nf 0 v.toInt c9 te.toInt pe.toInt bk.2.2.2 0) (sp_nf 1 v.toInt c9 te.toInt pe.toInt bk.2.2.2 0))) = some u1 → u1.length = 0 := by rcases hsl0 with g9 | g9; (· omega); (· exact g9.2)
            have fx205 : V189 (fl) = some (.inr (3, [.ref (fl + 1), .int (z32)])) := (fr194 (fl) (hq_tne hy6 hyit9.1 (by simp)) (hq_tne hy6 hyit9.2.2.2 (by simp))).trans ((fr167 (fl) (hq_tne hy6 hy0 (by simp)) (hq_tne hy6 hy4 (by simp)) (hq_tne hy6 hy5 (by simp)) (hq_tne hy6 hyit9.2.1 (by simp)) (hq_tne hy6 hyit9.2.2.1 (by simp))).trans ((fr143 (fl) (hq_tne hy6 hyit9.1 (by simp)) (hq_tne hy6 hyit9.2.2.2 (by simp))).trans ((fr122 (fl) (hq_tne hy6 hyit9.2.1 (by simp)) (hq_tne hy6 hyit9.2.2.1 (by simp))).trans ((fr100 (fl) (hq_tne hy6 hyit9.2.1 (by simp)) (hq_tne hy6 hyit9.2.2.1 (by simp))).trans (fx64)))))
            have fx206 : V189 (ch) = some (.inr (9, [.ref (ch + 1), .int (z171)])) := (fr194 (ch) (hq_tne hy4 hyit9.1 (by simp)) (hq_tne hy4 hyit9.2.2.2 (by simp))).trans (ho176)
            have fx207 : V189 (ch + 1) = some (.inl (cs 0, 30, .inl (u172))) := (fr194 (ch + 1) (hq_tne hy5 hyit9.1 (by simp)) (hq_tne hy5 hyit9.2.2.2 (by simp))).trans (ho177)
            have fx208 : V189 (fl + 1) = some (.inl (cs 4, 4, .inr (.inr (.inr (.inr (gf)))))) := (fr194 (fl + 1) (hq_tne hy7 hyit9.1 (by simp)) (hq_tne hy7 hyit9.2.2.2 (by simp))).trans ((fr167 (fl + 1) (hq_tne hy7 hy0 (by simp)) (hq_tne hy7 hy4 (by simp)) (hq_tne hy7 hy5 (by simp)) (hq_tne hy7 hyit9.2.1 (by simp)) (hq_tne hy7 hyit9.2.2.1 (by simp))).trans ((fr143 (fl + 1) (hq_tne hy7 hyit9.1 (by simp)) (hq_tne hy7 hyit9.2.2.2 (by simp))).trans ((fr122 (fl + 1) (hq_tne hy7 hyit9.2.1 (by simp)) (hq_tne hy7 hyit9.2.2.1 (by simp))).trans ((fr100 (fl + 1) (hq_tne hy7 hyit9.2.1 (by simp)) (hq_tne hy7 hyit9.2.2.1 (by simp))).trans ((fr60 (fl + 1) (hq_tne hy7 hyit9.1 (by simp)) (hq_tne hy7 hyit9.2.1 (by simp))).trans (ho35))))))
            exact hp_vret hx hb hr hlocks hZ ⟨rfl, hP, (fun x8 hne0 hne1 hne2 hne3 => (fr194 x8 (by omega) (by omega)).trans ((fr167 x8 hne0 hne1 hne2 (by omega) (by omega)).trans ((fr143 x8 (by omega) (by omega)).trans ((fr122 x8 (by omega) (by omega)).trans ((fr100 x8 (by omega) (by omega)).trans ((fr60 x8 (by omega) (by omega)).trans ((fr30 x8 hne3).trans (fr6 x8 (by omega))))))))), z32, z168, z171, u172, [], fx205, fx208, fx203, fx206, fx207, by have h9 := hLn; rw [hL0] at h9; exact h9, hx_FM.nil, Or.inr (Or.inr (Or.inr (Or.inr ⟨by omega, hLE.symm, by omega, hmk0, rfl⟩))), by decide, (fun u9 hu9 => by cases hu9)⟩ dX6_makePlain_158
          · have c204 : ¬ (z168).toInt = (0 : Int) := fun h9 => c204 (hq_eqi.mpr h9)
            obtain ⟨u1, hsa, hpos, hrp⟩ : ∃ u1, (sp_sa w (-1) (-1) bk.2.2.2 0 (sp_U w bk (sp_nm w t9) (sp_nf 0 v.toInt c9 te.toInt pe.toInt bk.2.2.2 0) (sp_nf 1 v.toInt c9 te.toInt pe.toInt bk.2.2.2 0))) = some u1 ∧ 0 < u1.length ∧ sp_rp z169 u170 u1 := by rcases hsl0 with g9 | g9; (· exact g9.2); (· omega)
            refine lv_aload_n hx hb dX6_makePlain_154 rfl (lv_at hl 5 rfl) ?_
            have fx209 : V189 (it9 + 1) = some (.inr (9, [.ref (it9 + 2), .int (z169)])) := (fr194 (it9 + 1) (hq_tne hyit9.2.1 hyit9.1 (by simp)) (hq_tne hyit9.2.1 hyit9.2.2.2 (by simp))).trans (ho174)
            have fx210 : V189 (it9 + 2) = some (.inl (cs 0, 30, .inl (u170))) := (fr194 (it9 + 2) (hq_tne hyit9.2.2.1 hyit9.1 (by simp)) (hq_tne hyit9.2.2.1 hyit9.2.2.2 (by simp))).trans (ho175)
            have hfw : hx_FW cs V189 it9 u1 := ⟨_, _, _, ho197, fx209, fx210, hrp⟩
            have hfm := (hx_FM.nil (cs := cs) (V := V189) (fl := fl)).snoc (a := it9) (by rw [hit9]; have h9 := hLn; rw [hL0] at h9; have h8 : (([] : List (List Int)).length : Int) = 0 := rfl; show _ = fl + 2 + 4 * 0; omega) hfw
            have hl1 : ([] ++ [u1] : List (List Int)).length = 1 := rfl
            have fx211 : V189 (fl) = some (.inr (3, [.ref (fl + 1), .int (z32)])) := (fr194 (fl) (hq_tne hy6 hyit9.1 (by simp)) (hq_tne hy6 hyit9.2.2.2 (by simp))).trans ((fr167 (fl) (hq_tne hy6 hy0 (by simp)) (hq_tne hy6 hy4 (by simp)) (hq_tne hy6 hy5 (by simp)) (hq_tne hy6 hyit9.2.1 (by simp)) (hq_tne hy6 hyit9.2.2.1 (by simp))).trans ((fr143 (fl) (hq_tne hy6 hyit9.1 (by simp)) (hq_tne hy6 hyit9.2.2.2 (by simp))).trans ((fr122 (fl) (hq_tne hy6 hyit9.2.1 (by simp)) (hq_tne hy6 hyit9.2.2.1 (by simp))).trans ((fr100 (fl) (hq_tne hy6 hyit9.2.1 (by simp)) (hq_tne hy6 hyit9.2.2.1 (by simp))).trans (fx64)))))
            have fx212 : V189 (fl + 1) = some (.inl (cs 4, 4, .inr (.inr (.inr (.inr (gf)))))) := (fr194 (fl + 1) (hq_tne hy7 hyit9.1 (by simp)) (hq_tne hy7 hyit9.2.2.2 (by simp))).trans ((fr167 (fl + 1) (hq_tne hy7 hy0 (by simp)) (hq_tne hy7 hy4 (by simp)) (hq_tne hy7 hy5 (by simp)) (hq_tne hy7 hyit9.2.1 (by simp)) (hq_tne hy7 hyit9.2.2.1 (by simp))).trans ((fr143 (fl + 1) (hq_tne hy7 hyit9.1 (by simp)) (hq_tne hy7 hyit9.2.2.2 (by simp))).trans ((fr122 (fl + 1) (hq_tne hy7 hyit9.2.1 (by simp)) (hq_tne hy7 hyit9.2.2.1 (by simp))).trans ((fr100 (fl + 1) (hq_tne hy7 hyit9.2.1 (by simp)) (hq_tne hy7 hyit9.2.2.1 (by simp))).trans ((fr60 (fl + 1) (hq_tne hy7 hyit9.1 (by simp)) (hq_tne hy7 hyit9.2.1 (by simp))).trans (ho35))))))
            refine hp_callv (hp_runV (As := []) (rest := []) hx hb hml hown hts (x_flkeep l D cs B G V189 n hP.1 (fl) (z32) (gf) hy6 hy7 fx211 fx212  (by omega)) hZ fx211 cv_X6_97 rfl rfl ⟨Nat.le_of_ble_eq_true rfl, Nat.le_of_ble_eq_true rfl⟩ rfl hl.1 rfl (Nat.le_of_ble_eq_true rfl) dX6_makePlain_155 ⟨(Nat.le_of_ble_eq_true rfl), (Nat.le_of_ble_eq_true rfl)⟩) hZ (fun V213 n214 _ _ hw215 hZ => ?_)
            obtain ⟨rfl, hq217, fr218, z219, ho220, hp221⟩ := hw215
            have b222 := hq_rng z219
            have hP := hP.trans hq217 (fun _ h => Bool.noConfusion h)
            have fx223 : V213 (mk) = some (.inr (6, [.ref (md), .int (z168), .ref (mh), .ref (pt), .ref (ch)])) := (fr218 (mk) (hq_tne hy0 hy6 (by simp))).trans (fx203)
            have fx224 : V213 (ch) = some (.inr (9, [.ref (ch + 1), .int (z171)])) := (fr218 (ch) (hq_tne hy4 hy6 (by simp))).trans ((fr194 (ch) (hq_tne hy4 hyit9.1 (by simp)) (hq_tne hy4 hyit9.2.2.2 (by simp))).trans (ho176))
            have fx225 : V213 (ch + 1) = some (.inl (cs 0, 30, .inl (u172))) := (fr218 (ch + 1) (hq_tne hy5 hy6 (by simp))).trans ((fr194 (ch + 1) (hq_tne hy5 hyit9.1 (by simp)) (hq_tne hy5 hyit9.2.2.2 (by simp))).trans (ho177))
            have pk226 := hfm.keep (fun x7 (hx7 : fl + 2 ≤ x7 ∧ x7 < fl + 2 + 4 * ([] ++ [u1] : List (List Int)).length) => fr218 x7 (by omega))
            have fx227 : V213 (fl + 1) = some (.inl (cs 4, 4, .inr (.inr (.inr (.inr (gf)))))) := (fr218 (fl + 1) (hq_tne hy7 hy6 (by simp))).trans (fx212)
            exact hp_vret hx hb hr hlocks hZ ⟨rfl, hP, (fun x8 hne0 hne1 hne2 hne3 => (fr218 x8 (by omega)).trans ((fr194 x8 (by omega) (by omega)).trans ((fr167 x8 hne0 hne1 hne2 (by omega) (by omega)).trans ((fr143 x8 (by omega) (by omega)).trans ((fr122 x8 (by omega) (by omega)).trans ((fr100 x8 (by omega) (by omega)).trans ((fr60 x8 (by omega) (by omega)).trans ((fr30 x8 hne3).trans (fr6 x8 (by omega)))))))))), z219, z168, z171, u172, ([] ++ [u1]), ho220, fx227, fx223, fx224, fx225, by have h9 := hLn; rw [hL0] at h9; have h8 : (([] : List (List Int)).length : Int) = 0 := rfl; omega, pk226, Or.inr (Or.inr (Or.inr (Or.inl ⟨by omega, hLE.symm, by omega, u1, hsa, hpos, rfl⟩))), (by rw [hl1]; decide), (fun u9 hu9 => by have h9 := List.mem_singleton.mp hu9; rw [h9]; exact sp_sa_le (sp_U_le hg8 hnl _ _) hsa)⟩ dX6_makePlain_158
        · have c112 : ¬ (r98).toInt = (0 : Int) := fun h9 => c112 (hq_eqi.mpr h9)
          refine lv_aload hx hb dX6_makePlain_97 (lv_at hl 1 rfl) ?_
          refine lv_iload hx hb dX6_makePlain_99 (lv_at hl 0 rfl) ?_
          obtain ⟨-, g228, eV229, hf230⟩ := hq_o2 hP.1 hyit9.2.2.2
          have fx231 : V95 (it9) = some (.inr (2, [.ref (it9 + 1), .ref (it9 + 3), .int (0)])) := (fr100 (it9) (hq_tne hyit9.1 hyit9.2.1 (by simp)) (hq_tne hyit9.1 hyit9.2.2.1 (by simp))).trans (ho61)
          have hl232 : (0 : Int32).toInt = 0 := by decide
          refine hp_callv (hp_runV (As := [.int (r85)]) (rest := []) hx hb hml hown hts (x_addLine l D cs B G V95 n hP.1 (it9) (r85) (0) (g228) hyit9.1 hyit9.2.1 hyit9.2.2.1 hyit9.2.2.2 fx231 eV229  (by omega)) hZ fx231 cv_X6_77 rfl rfl ⟨Nat.le_of_ble_eq_true rfl, Nat.le_of_ble_eq_true rfl⟩ rfl hl.1 rfl (Nat.le_of_ble_eq_true rfl) dX6_makePlain_101 ⟨(Nat.le_of_ble_eq_true rfl), (Nat.le_of_ble_eq_true rfl)⟩) hZ (fun V233 n234 _ _ hw235 hZ => ?_)
          obtain ⟨rfl, hq237, fr238, z239, u240, ho241, ho242, hp243⟩ := hw235
          have b244 := hq_rng z239
          have hP := hP.trans hq237 (fun _ h => Bool.noConfusion h)
          have hf245 := hq_rg2 hP.1 hyit9.2.2.2 ho242
          have b246 := hp243
          refine lv_aload hx hb dX6_makePlain_104 (lv_at hl 1 rfl) ?_
          refine hp_get (v := .ref (it9 + 1)) hx hb hts hown hZ ho241 fl_X6_86 rfl dX6_makePlain_106 ?_
          refine lv_aload_n hx hb dX6_makePlain_109 rfl (lv_at hl 4 rfl) ?_
          have fx247 : V233 (qt) = some (.inr (0, [.ref (qt + 1), .int (bc), .ref (qt + 14), .ref (qt + 75), .int (bv), .ref (qt + 76), .int (bl)])) := (fr238 (qt) (by omega) (by omega)).trans ((fr100 (qt) (by omega) (by omega)).trans (fx76))
          refine hp_get (v := .ref (qt + 76)) hx hb hts hown hZ fx247 fl_X6_43 rfl dX6_makePlain_110 ?_
          refine lv_iload hx hb dX6_makePlain_113 (lv_at hl 2 rfl) ?_
          have fx248 : V233 (qt + 76) = some (.inl (cs 6, 60, .inr (.inr (.inr (.inr (g3)))))) := (fr238 (qt + 76) (by omega) (by omega)).trans ((fr100 (qt + 76) (by omega) (by omega)).trans ((fr60 (qt + 76) (by omega) (by omega)).trans ((fr30 (qt + 76) (by omega)).trans ((fr6 (qt + 76) (by omega)).trans (hg3)))))
          have hixla9 : 0 ≤ (r50).toInt ∧ (r50).toInt < (bk.2.2.2.length : Int) := by omega
          obtain ⟨la9, hla9⟩ : ∃ ta, ta = qt + 77 + 5 * (r50).toNatClampNeg := ⟨_, rfl⟩
          have hiila9 : ((r50).toNatClampNeg : Int) = (r50).toInt := (hq_nn (by omega)).1.symm
          have hla91 : g3 (r50).toNatClampNeg = some la9 := by rw [hla9]; exact hr3 _ (by omega)
          obtain ⟨xla9, hxla9⟩ : ∃ t, bk.2.2.2[(r50).toNatClampNeg]? = some t := ⟨_, List.getElem?_eq_getElem (by omega)⟩
          have pk249 := pk80.keep (fun x7 (hx7 : qt + 77 ≤ x7 ∧ x7 < qt + 77 + 5 * bk.2.2.2.length) => (fr238 x7 (by omega) (by omega)).trans (fr100 x7 (by omega) (by omega)))
          obtain ⟨ak, ao, at9, ap, ah, aht, apa, ala, ha1, ha2, ha3, ha4, ha5, ha6, ha7, hlt1, hlt2⟩ := (show hx_LN cs V233 la9 w xla9 by rw [hla9]; exact pk249.2 _ _ hxla9)
          obtain ⟨fz, ff, hfz1, hfz2, hfz3, hfz4, hfz5⟩ := hlt1.rp
          obtain ⟨sz, sf, hsz1, hsz2, hsz3, hsz4, hsz5⟩ := hlt2.rp
          have hfzl := hfz5.1
          have hszl := hsz5.1
          obtain ⟨hgl1, hgl2, hgl3⟩ := hgd.1 _ _ hxla9
          obtain ⟨hgm1, hgm2, hgm3, hgm4⟩ := hgd2 _ _ hxla9
          have hyl := hBT.2.2 (r50).toNatClampNeg (by omega)
          rw [← hla9] at hyl
          have hfrf := hq_rgB hP.1 hyl.2.2.1 hfz2
          have hfrs := hq_rgB hP.1 hyl.2.2.2.2 hsz2
          have hfela9 := (show sp_rp fz ff (sp_F w xla9) from hfz5).1
          have hsela9 := (show sp_rp sz sf (sp_S2 w xla9) from hsz5).1
          refine hp_aald (v := .ref (la9)) hx hb hZ 6 fx248 rfl (hq_in (by omega) (by omega)) (by rw [hla91]; rfl) dX6_makePlain_115 ?_
          refine hp_get (v := .ref (la9 + 1)) hx hb hts hown hZ ha1 fl_X6_107 rfl dX6_makePlain_116 ?_
          have fx250 : V233 (it9 + 1) = some (.inr (9, [.ref (it9 + 2), .int (z101)])) := (fr238 (it9 + 1) (hq_tne hyit9.2.1 hyit9.1 (by simp)) (hq_tne hyit9.2.1 hyit9.2.2.2 (by simp))).trans (ho103)
          have fx251 : V233 (it9 + 2) = some (.inl (cs 0, 30, .inl (u102))) := (fr238 (it9 + 2) (hq_tne hyit9.2.2.1 hyit9.1 (by simp)) (hq_tne hyit9.2.2.1 hyit9.2.2.2 (by simp))).trans (ho104)
          refine hp_calli (hp_runV (As := [.ref (la9 + 1)]) (rest := []) hx hb hml hown hts (x_addA l D cs B G V233 n hP.1 (it9 + 1) (30) (la9 + 1) (8) (z101) (u102) ((sp_stm w bk (sp_nm w t9) (sp_nf 0 v.toInt c9 te.toInt pe.toInt bk.2.2.2 0))) (fz) (ff) ((sp_F w xla9)) hyit9.2.1 hyit9.2.2.1 hyl.2.2.1 fx250 fx251 hfz1 hfz2  hps hfz5 (by omega) (by omega) (by decide) (by decide) (by omega)) hZ fx250 cv_X6_89 rfl rfl ⟨Nat.le_of_ble_eq_true rfl, Nat.le_of_ble_eq_true rfl⟩ rfl hl.1 rfl (Nat.le_of_ble_eq_true rfl) dX6_makePlain_119 ⟨(Nat.le_of_ble_eq_true rfl), (Nat.le_of_ble_eq_true rfl)⟩) hZ (fun r255 V252 n253 _ _ hw254 hZ => ?_)
          obtain ⟨rfl, hq256, fr257, z258, u259, ho260, ho261, hp262, hp263⟩ := hw254
          have b264 := hq_rng z258
          have hP := hP.trans hq256 (fun _ h => Bool.noConfusion h)
          have hf265 := hq_rgB hP.1 hyit9.2.2.1 ho261
          have b266 := hq_rng r255
          have hap : sp_rp z258 u259 ((sp_stm w bk (sp_nm w t9) (sp_nf 0 v.toInt c9 te.toInt pe.toInt bk.2.2.2 0)) ++ sp_F w xla9) := by rcases hp262 with g9 | g9; (· exact g9.2.2); (· exfalso; have g8 := g9.1; omega)
          have b267 := hp263
          have hend : sp_rp z258 u259 (sp_U w bk (sp_nm w t9) (sp_nf 0 v.toInt c9 te.toInt pe.toInt bk.2.2.2 0) (sp_nf 1 v.toInt c9 te.toInt pe.toInt bk.2.2.2 0)) := by unfold sp_U; rw [sp_end_y (by omega) (by rw [← hf1]; exact hxla9)]; exact hap
          have hend1 := hend.1
          have hul := sp_U_le hg8 hnl (sp_nf 0 v.toInt c9 te.toInt pe.toInt bk.2.2.2 0) (sp_nf 1 v.toInt c9 te.toInt pe.toInt bk.2.2.2 0)
          refine lv_pop hx hb dX6_makePlain_122 rfl ?_
          refine lv_aload hx hb dX6_makePlain_123 (lv_at hl 1 rfl) ?_
          refine lv_iload hx hb dX6_makePlain_125 (lv_at hl 2 rfl) ?_
          have fx268 : V252 (it9) = some (.inr (2, [.ref (it9 + 1), .ref (it9 + 3), .int (z239)])) := (fr257 (it9) (hq_tne hyit9.1 hyit9.2.1 (by simp)) (hq_tne hyit9.1 hyit9.2.2.1 (by simp))).trans (ho241)
          have fx269 : V252 (it9 + 3) = some (.inl (cs 1, 120, .inl (u240))) := (fr257 (it9 + 3) (hq_tne hyit9.2.2.2 hyit9.2.1 (by simp)) (hq_tne hyit9.2.2.2 hyit9.2.2.1 (by simp))).trans (ho242)
          refine hp_callv (hp_runV (As := [.int (r50)]) (rest := []) hx hb hml hown hts (x_addLine l D cs B G V252 n hP.1 (it9) (r50) (z239) (u240) hyit9.1 hyit9.2.1 hyit9.2.2.1 hyit9.2.2.2 fx268 fx269  (by omega)) hZ fx268 cv_X6_77 rfl rfl ⟨Nat.le_of_ble_eq_true rfl, Nat.le_of_ble_eq_true rfl⟩ rfl hl.1 rfl (Nat.le_of_ble_eq_true rfl) dX6_makePlain_127 ⟨(Nat.le_of_ble_eq_true rfl), (Nat.le_of_ble_eq_true rfl)⟩) hZ (fun V270 n271 _ _ hw272 hZ => ?_)
          obtain ⟨rfl, hq274, fr275, z276, u277, ho278, ho279, hp280⟩ := hw272
          have b281 := hq_rng z276
          have hP := hP.trans hq274 (fun _ h => Bool.noConfusion h)
          have hf282 := hq_rg2 hP.1 hyit9.2.2.2 ho279
          have b283 := hp280
          refine lv_aload hx hb dX6_makePlain_130 (lv_at hl 1 rfl) ?_
          refine lv_aload_n hx hb dX6_makePlain_132 rfl (lv_at hl 3 rfl) ?_
          refine lv_aload_n hx hb dX6_makePlain_133 rfl (lv_at hl 4 rfl) ?_
          refine lv_aload hx hb dX6_makePlain_134 (lv_at hl 1 rfl) ?_
          refine hp_get (v := .ref (it9 + 1)) hx hb hts hown hZ ho278 fl_X6_86 rfl dX6_makePlain_136 ?_
          refine lv_iconst (v := -1) hx hb dX6_makePlain_139 (by decide) ?_
          refine lv_iconst (v := -1) hx hb dX6_makePlain_140 (by decide) ?_
          have fx284 : V270 (mk) = some (.inr (6, [.ref (md), .int (wz), .ref (mh), .ref (pt), .ref (ch)])) := (fr275 (mk) (hq_tne hy0 hyit9.1 (by simp)) (hq_tne hy0 hyit9.2.2.2 (by simp))).trans ((fr257 (mk) (hq_tne hy0 hyit9.2.1 (by simp)) (hq_tne hy0 hyit9.2.2.1 (by simp))).trans ((fr238 (mk) (hq_tne hy0 hyit9.1 (by simp)) (hq_tne hy0 hyit9.2.2.2 (by simp))).trans ((fr100 (mk) (hq_tne hy0 hyit9.2.1 (by simp)) (hq_tne hy0 hyit9.2.2.1 (by simp))).trans ((fr60 (mk) (hq_tne hy0 hyit9.1 (by simp)) (hq_tne hy0 hyit9.2.1 (by simp))).trans ((fr30 (mk) (by omega)).trans (fx31))))))
          have fx285 : V270 (qt) = some (.inr (0, [.ref (qt + 1), .int (bc), .ref (qt + 14), .ref (qt + 75), .int (bv), .ref (qt + 76), .int (bl)])) := (fr275 (qt) (by omega) (by omega)).trans ((fr257 (qt) (by omega) (by omega)).trans (fx247))
          have fx286 : V270 (it9 + 1) = some (.inr (9, [.ref (it9 + 2), .int (z258)])) := (fr275 (it9 + 1) (hq_tne hyit9.2.1 hyit9.1 (by simp)) (hq_tne hyit9.2.1 hyit9.2.2.2 (by simp))).trans (ho260)
          have fx287 : V270 (it9 + 2) = some (.inl (cs 0, 30, .inl (u259))) := (fr275 (it9 + 2) (hq_tne hyit9.2.2.1 hyit9.1 (by simp)) (hq_tne hyit9.2.2.1 hyit9.2.2.2 (by simp))).trans (ho261)
          have fx288 : V270 (ch) = some (.inr (9, [.ref (ch + 1), .int (cz)])) := (fr275 (ch) (hq_tne hy4 hyit9.1 (by simp)) (hq_tne hy4 hyit9.2.2.2 (by simp))).trans ((fr257 (ch) (by omega) (hq_tne hy4 hyit9.2.2.1 (by simp))).trans ((fr238 (ch) (hq_tne hy4 hyit9.1 (by simp)) (hq_tne hy4 hyit9.2.2.2 (by simp))).trans ((fr100 (ch) (by omega) (hq_tne hy4 hyit9.2.2.1 (by simp))).trans ((fr60 (ch) (hq_tne hy4 hyit9.1 (by simp)) (by omega)).trans ((fr30 (ch) (by omega)).trans ((fr6 (ch) (hq_tne hy4 hy6 (by simp))).trans (hc5)))))))
          have fx289 : V270 (ch + 1) = some (.inl (cs 0, 30, .inl (cf))) := (fr275 (ch + 1) (hq_tne hy5 hyit9.1 (by simp)) (hq_tne hy5 hyit9.2.2.2 (by simp))).trans ((fr257 (ch + 1) (hq_tne hy5 hyit9.2.1 (by simp)) (by omega)).trans ((fr238 (ch + 1) (hq_tne hy5 hyit9.1 (by simp)) (hq_tne hy5 hyit9.2.2.2 (by simp))).trans ((fr100 (ch + 1) (hq_tne hy5 hyit9.2.1 (by simp)) (by omega)).trans ((fr60 (ch + 1) (hq_tne hy5 hyit9.1 (by simp)) (hq_tne hy5 hyit9.2.1 (by simp))).trans ((fr30 (ch + 1) (by omega)).trans ((fr6 (ch + 1) (hq_tne hy5 hy6 (by simp))).trans (hc6)))))))
          have hl290 : (-1 : Int32).toInt = -1 := by decide
          have hl291 : (-1 : Int32).toInt = -1 := by decide
          have pk292 := pk249.keep (fun x7 (hx7 : qt + 77 ≤ x7 ∧ x7 < qt + 77 + 5 * bk.2.2.2.length) => (fr275 x7 (by omega) (by omega)).trans (fr257 x7 (by omega) (by omega)))
          have pk293 := pk81.keep ((fr275 (qt + 1) (by omega) (by omega)).trans ((fr257 (qt + 1) (by omega) (by omega)).trans ((fr238 (qt + 1) (by omega) (by omega)).trans (fr100 (qt + 1) (by omega) (by omega))))) ((fr275 (qt + 14) (by omega) (by omega)).trans ((fr257 (qt + 14) (by omega) (by omega)).trans ((fr238 (qt + 14) (by omega) (by omega)).trans (fr100 (qt + 14) (by omega) (by omega))))) ((fr275 (qt + 76) (by omega) (by omega)).trans ((fr257 (qt + 76) (by omega) (by omega)).trans ((fr238 (qt + 76) (by omega) (by omega)).trans (fr100 (qt + 76) (by omega) (by omega)))))
          refine hp_calll (hp_runV (As := [.ref (qt), .ref (it9 + 1), .int (-1), .int (-1)]) (rest := [.ref (it9)]) hx hb hml hown hts (x_sall l D cs B G V270 n hP.1 (mk) (md) (mh) (pt) (ch) (qt) (it9 + 1) (bb) (w) (bk) (wz) (-1) (-1) (bc) (bv) (bl) (z258) (u259) (cz) (cf) ((sp_U w bk (sp_nm w t9) (sp_nf 0 v.toInt c9 te.toInt pe.toInt bk.2.2.2 0) (sp_nf 1 v.toInt c9 te.toInt pe.toInt bk.2.2.2 0))) hy0 hy1 hy2 hy3 hy4 hy5 hyit9.2.1 hyit9.2.2.1 fx284 fx285 fx286 fx287 fx288 fx289 pk292 pk293 hbl hgd hgd2 hBT hend (by omega) (by omega) hsh) hZ fx284 cv_X6_110 rfl rfl ⟨Nat.le_of_ble_eq_true rfl, Nat.le_of_ble_eq_true rfl⟩ rfl hl.1 rfl (Nat.le_of_ble_eq_true rfl) dX6_makePlain_141 ⟨(Nat.le_of_ble_eq_true rfl), (Nat.le_of_ble_eq_true rfl)⟩) hZ (fun r297 V294 n295 _ _ hw296 hZ => ?_)
          obtain ⟨rfl, hq298, fr299, z300, z301, u302, z303, u304, ho305, ho306, ho307, ho308, ho309, hp310, hp311, hp312⟩ := hw296
          have b313 := hq_rng z300
          have b314 := hq_rng z301
          have b315 := hq_rng z303
          have hP := hP.trans hq298 (fun _ h => Bool.noConfusion h)
          have hf316 := hq_rgB hP.1 hyit9.2.2.1 ho307
          have hf317 := hq_rgB hP.1 hy5 ho309
          have hsl0 := hp310
          rw [show (-1 : Int32).toInt = -1 by decide] at hsl0
          have b318 := hp312
          have fx319 : V294 (it9) = some (.inr (2, [.ref (it9 + 1), .ref (it9 + 3), .int (z276)])) := (fr299 (it9) (hq_tne hyit9.1 hy0 (by simp)) (hq_tne hyit9.1 hy4 (by simp)) (hq_tne hyit9.1 hy5 (by simp)) (hq_tne hyit9.1 hyit9.2.1 (by simp)) (hq_tne hyit9.1 hyit9.2.2.1 (by simp))).trans (ho278)
          have fx320 : V294 (it9 + 3) = some (.inl (cs 1, 120, .inl (u277))) := (fr299 (it9 + 3) (hq_tne hyit9.2.2.2 hy0 (by simp)) (hq_tne hyit9.2.2.2 hy4 (by simp)) (hq_tne hyit9.2.2.2 hy5 (by simp)) (hq_tne hyit9.2.2.2 hyit9.2.1 (by simp)) (hq_tne hyit9.2.2.2 hyit9.2.2.1 (by simp))).trans (ho279)
          refine hp_callv (hp_runV (As := [.long (r297)]) (rest := []) hx hb hml hown hts (x_addBits l D cs B G V294 n hP.1 (it9) (r297) (z276) (u277) hyit9.1 hyit9.2.1 hyit9.2.2.1 hyit9.2.2.2 fx319 fx320  (by omega)) hZ fx319 cv_X6_114 rfl rfl ⟨Nat.le_of_ble_eq_true rfl, Nat.le_of_ble_eq_true rfl⟩ rfl hl.1 rfl (Nat.le_of_ble_eq_true rfl) dX6_makePlain_144 ⟨(Nat.le_of_ble_eq_true rfl), (Nat.le_of_ble_eq_true rfl)⟩) hZ (fun V321 n322 _ _ hw323 hZ => ?_)
          obtain ⟨rfl, hq325, fr326, z327, u328, ho329, ho330, hp331⟩ := hw323
          have b332 := hq_rng z327
          have hP := hP.trans hq325 (fun _ h => Bool.noConfusion h)
          have hf333 := hq_rg2 hP.1 hyit9.2.2.2 ho330
          have b334 := hp331
          refine lv_aload_n hx hb dX6_makePlain_147 rfl (lv_at hl 3 rfl) ?_
          have fx335 : V321 (mk) = some (.inr (6, [.ref (md), .int (z300), .ref (mh), .ref (pt), .ref (ch)])) := (fr326 (mk) (hq_tne hy0 hyit9.1 (by simp)) (hq_tne hy0 hyit9.2.2.2 (by simp))).trans (ho305)
          refine hp_get (v := .int (z300)) hx hb hts hown hZ fx335 fl_X6_118 rfl dX6_makePlain_148 ?_
          refine lv_if_eq (tgt := 158) hx hb dX6_makePlain_151 (by decide) (fun c336 => ?_) (fun c336 => ?_)
          · have c336 : (z300).toInt = (0 : Int) := hq_eqi.mp c336
            have hmk0 : ∀ u1, (sp_sa w (-1) (-1) bk.2.2.2 0 (sp_U w bk (sp_nm w t9) (sp_nf 0 v.toInt c9 te.toInt pe.toInt bk.2.2.2 0) (sp_nf 1 v.toInt c9 te.toInt pe.toInt bk.2.2.2 0))) = some u1 → u1.length = 0 := by rcases hsl0 with g9 | g9; (· omega); (· exact g9.2)
            have fx337 : V321 (fl) = some (.inr (3, [.ref (fl + 1), .int (z32)])) := (fr326 (fl) (hq_tne hy6 hyit9.1 (by simp)) (hq_tne hy6 hyit9.2.2.2 (by simp))).trans ((fr299 (fl) (hq_tne hy6 hy0 (by simp)) (hq_tne hy6 hy4 (by simp)) (hq_tne hy6 hy5 (by simp)) (hq_tne hy6 hyit9.2.1 (by simp)) (hq_tne hy6 hyit9.2.2.1 (by simp))).trans ((fr275 (fl) (hq_tne hy6 hyit9.1 (by simp)) (hq_tne hy6 hyit9.2.2.2 (by simp))).trans ((fr257 (fl) (hq_tne hy6 hyit9.2.1 (by simp)) (hq_tne hy6 hyit9.2.2.1 (by simp))).trans ((fr238 (fl) (hq_tne hy6 hyit9.1 (by simp)) (hq_tne hy6 hyit9.2.2.2 (by simp))).trans ((fr100 (fl) (hq_tne hy6 hyit9.2.1 (by simp)) (hq_tne hy6 hyit9.2.2.1 (by simp))).trans (fx64))))))
            have fx338 : V321 (ch) = some (.inr (9, [.ref (ch + 1), .int (z303)])) := (fr326 (ch) (hq_tne hy4 hyit9.1 (by simp)) (hq_tne hy4 hyit9.2.2.2 (by simp))).trans (ho308)
            have fx339 : V321 (ch + 1) = some (.inl (cs 0, 30, .inl (u304))) := (fr326 (ch + 1) (hq_tne hy5 hyit9.1 (by simp)) (hq_tne hy5 hyit9.2.2.2 (by simp))).trans (ho309)
            have fx340 : V321 (fl + 1) = some (.inl (cs 4, 4, .inr (.inr (.inr (.inr (gf)))))) := (fr326 (fl + 1) (hq_tne hy7 hyit9.1 (by simp)) (hq_tne hy7 hyit9.2.2.2 (by simp))).trans ((fr299 (fl + 1) (hq_tne hy7 hy0 (by simp)) (hq_tne hy7 hy4 (by simp)) (hq_tne hy7 hy5 (by simp)) (hq_tne hy7 hyit9.2.1 (by simp)) (hq_tne hy7 hyit9.2.2.1 (by simp))).trans ((fr275 (fl + 1) (hq_tne hy7 hyit9.1 (by simp)) (hq_tne hy7 hyit9.2.2.2 (by simp))).trans ((fr257 (fl + 1) (hq_tne hy7 hyit9.2.1 (by simp)) (hq_tne hy7 hyit9.2.2.1 (by simp))).trans ((fr238 (fl + 1) (hq_tne hy7 hyit9.1 (by simp)) (hq_tne hy7 hyit9.2.2.2 (by simp))).trans ((fr100 (fl + 1) (hq_tne hy7 hyit9.2.1 (by simp)) (hq_tne hy7 hyit9.2.2.1 (by simp))).trans ((fr60 (fl + 1) (hq_tne hy7 hyit9.1 (by simp)) (hq_tne hy7 hyit9.2.1 (by simp))).trans (ho35)))))))
            exact hp_vret hx hb hr hlocks hZ ⟨rfl, hP, (fun x8 hne0 hne1 hne2 hne3 => (fr326 x8 (by omega) (by omega)).trans ((fr299 x8 hne0 hne1 hne2 (by omega) (by omega)).trans ((fr275 x8 (by omega) (by omega)).trans ((fr257 x8 (by omega) (by omega)).trans ((fr238 x8 (by omega) (by omega)).trans ((fr100 x8 (by omega) (by omega)).trans ((fr60 x8 (by omega) (by omega)).trans ((fr30 x8 hne3).trans (fr6 x8 (by omega)))))))))), z32, z300, z303, u304, [], fx337, fx340, fx335, fx338, fx339, by have h9 := hLn; rw [hL0] at h9; exact h9, hx_FM.nil, Or.inr (Or.inr (Or.inr (Or.inr ⟨by omega, hLE.symm, by omega, hmk0, rfl⟩))), by decide, (fun u9 hu9 => by cases hu9)⟩ dX6_makePlain_158
          · have c336 : ¬ (z300).toInt = (0 : Int) := fun h9 => c336 (hq_eqi.mpr h9)
            obtain ⟨u1, hsa, hpos, hrp⟩ : ∃ u1, (sp_sa w (-1) (-1) bk.2.2.2 0 (sp_U w bk (sp_nm w t9) (sp_nf 0 v.toInt c9 te.toInt pe.toInt bk.2.2.2 0) (sp_nf 1 v.toInt c9 te.toInt pe.toInt bk.2.2.2 0))) = some u1 ∧ 0 < u1.length ∧ sp_rp z301 u302 u1 := by rcases hsl0 with g9 | g9; (· exact g9.2); (· omega)
            refine lv_aload_n hx hb dX6_makePlain_154 rfl (lv_at hl 5 rfl) ?_
            have fx341 : V321 (it9 + 1) = some (.inr (9, [.ref (it9 + 2), .int (z301)])) := (fr326 (it9 + 1) (hq_tne hyit9.2.1 hyit9.1 (by simp)) (hq_tne hyit9.2.1 hyit9.2.2.2 (by simp))).trans (ho306)
            have fx342 : V321 (it9 + 2) = some (.inl (cs 0, 30, .inl (u302))) := (fr326 (it9 + 2) (hq_tne hyit9.2.2.1 hyit9.1 (by simp)) (hq_tne hyit9.2.2.1 hyit9.2.2.2 (by simp))).trans (ho307)
            have hfw : hx_FW cs V321 it9 u1 := ⟨_, _, _, ho329, fx341, fx342, hrp⟩
            have hfm := (hx_FM.nil (cs := cs) (V := V321) (fl := fl)).snoc (a := it9) (by rw [hit9]; have h9 := hLn; rw [hL0] at h9; have h8 : (([] : List (List Int)).length : Int) = 0 := rfl; show _ = fl + 2 + 4 * 0; omega) hfw
            have hl1 : ([] ++ [u1] : List (List Int)).length = 1 := rfl
            have fx343 : V321 (fl) = some (.inr (3, [.ref (fl + 1), .int (z32)])) := (fr326 (fl) (hq_tne hy6 hyit9.1 (by simp)) (hq_tne hy6 hyit9.2.2.2 (by simp))).trans ((fr299 (fl) (hq_tne hy6 hy0 (by simp)) (hq_tne hy6 hy4 (by simp)) (hq_tne hy6 hy5 (by simp)) (hq_tne hy6 hyit9.2.1 (by simp)) (hq_tne hy6 hyit9.2.2.1 (by simp))).trans ((fr275 (fl) (hq_tne hy6 hyit9.1 (by simp)) (hq_tne hy6 hyit9.2.2.2 (by simp))).trans ((fr257 (fl) (hq_tne hy6 hyit9.2.1 (by simp)) (hq_tne hy6 hyit9.2.2.1 (by simp))).trans ((fr238 (fl) (hq_tne hy6 hyit9.1 (by simp)) (hq_tne hy6 hyit9.2.2.2 (by simp))).trans ((fr100 (fl) (hq_tne hy6 hyit9.2.1 (by simp)) (hq_tne hy6 hyit9.2.2.1 (by simp))).trans (fx64))))))
            have fx344 : V321 (fl + 1) = some (.inl (cs 4, 4, .inr (.inr (.inr (.inr (gf)))))) := (fr326 (fl + 1) (hq_tne hy7 hyit9.1 (by simp)) (hq_tne hy7 hyit9.2.2.2 (by simp))).trans ((fr299 (fl + 1) (hq_tne hy7 hy0 (by simp)) (hq_tne hy7 hy4 (by simp)) (hq_tne hy7 hy5 (by simp)) (hq_tne hy7 hyit9.2.1 (by simp)) (hq_tne hy7 hyit9.2.2.1 (by simp))).trans ((fr275 (fl + 1) (hq_tne hy7 hyit9.1 (by simp)) (hq_tne hy7 hyit9.2.2.2 (by simp))).trans ((fr257 (fl + 1) (hq_tne hy7 hyit9.2.1 (by simp)) (hq_tne hy7 hyit9.2.2.1 (by simp))).trans ((fr238 (fl + 1) (hq_tne hy7 hyit9.1 (by simp)) (hq_tne hy7 hyit9.2.2.2 (by simp))).trans ((fr100 (fl + 1) (hq_tne hy7 hyit9.2.1 (by simp)) (hq_tne hy7 hyit9.2.2.1 (by simp))).trans ((fr60 (fl + 1) (hq_tne hy7 hyit9.1 (by simp)) (hq_tne hy7 hyit9.2.1 (by simp))).trans (ho35)))))))
            refine hp_callv (hp_runV (As := []) (rest := []) hx hb hml hown hts (x_flkeep l D cs B G V321 n hP.1 (fl) (z32) (gf) hy6 hy7 fx343 fx344  (by omega)) hZ fx343 cv_X6_97 rfl rfl ⟨Nat.le_of_ble_eq_true rfl, Nat.le_of_ble_eq_true rfl⟩ rfl hl.1 rfl (Nat.le_of_ble_eq_true rfl) dX6_makePlain_155 ⟨(Nat.le_of_ble_eq_true rfl), (Nat.le_of_ble_eq_true rfl)⟩) hZ (fun V345 n346 _ _ hw347 hZ => ?_)
            obtain ⟨rfl, hq349, fr350, z351, ho352, hp353⟩ := hw347
            have b354 := hq_rng z351
            have hP := hP.trans hq349 (fun _ h => Bool.noConfusion h)
            have fx355 : V345 (mk) = some (.inr (6, [.ref (md), .int (z300), .ref (mh), .ref (pt), .ref (ch)])) := (fr350 (mk) (hq_tne hy0 hy6 (by simp))).trans (fx335)
            have fx356 : V345 (ch) = some (.inr (9, [.ref (ch + 1), .int (z303)])) := (fr350 (ch) (hq_tne hy4 hy6 (by simp))).trans ((fr326 (ch) (hq_tne hy4 hyit9.1 (by simp)) (hq_tne hy4 hyit9.2.2.2 (by simp))).trans (ho308))
            have fx357 : V345 (ch + 1) = some (.inl (cs 0, 30, .inl (u304))) := (fr350 (ch + 1) (hq_tne hy5 hy6 (by simp))).trans ((fr326 (ch + 1) (hq_tne hy5 hyit9.1 (by simp)) (hq_tne hy5 hyit9.2.2.2 (by simp))).trans (ho309))
            have pk358 := hfm.keep (fun x7 (hx7 : fl + 2 ≤ x7 ∧ x7 < fl + 2 + 4 * ([] ++ [u1] : List (List Int)).length) => fr350 x7 (by omega))
            have fx359 : V345 (fl + 1) = some (.inl (cs 4, 4, .inr (.inr (.inr (.inr (gf)))))) := (fr350 (fl + 1) (hq_tne hy7 hy6 (by simp))).trans (fx344)
            exact hp_vret hx hb hr hlocks hZ ⟨rfl, hP, (fun x8 hne0 hne1 hne2 hne3 => (fr350 x8 (by omega)).trans ((fr326 x8 (by omega) (by omega)).trans ((fr299 x8 hne0 hne1 hne2 (by omega) (by omega)).trans ((fr275 x8 (by omega) (by omega)).trans ((fr257 x8 (by omega) (by omega)).trans ((fr238 x8 (by omega) (by omega)).trans ((fr100 x8 (by omega) (by omega)).trans ((fr60 x8 (by omega) (by omega)).trans ((fr30 x8 hne3).trans (fr6 x8 (by omega))))))))))), z351, z300, z303, u304, ([] ++ [u1]), ho352, fx359, fx355, fx356, fx357, by have h9 := hLn; rw [hL0] at h9; have h8 : (([] : List (List Int)).length : Int) = 0 := rfl; omega, pk358, Or.inr (Or.inr (Or.inr (Or.inl ⟨by omega, hLE.symm, by omega, u1, hsa, hpos, rfl⟩))), (by rw [hl1]; decide), (fun u9 hu9 => by have h9 := List.mem_singleton.mp hu9; rw [h9]; exact sp_sa_le (sp_U_le hg8 hnl _ _) hsa)⟩ dX6_makePlain_158
  · have c22 : ¬ (r17).toInt = (-1 : Int) := fun h9 => c22 (hq_eqi.mpr h9)
    have fx360 : V1 (mk) = some (.inr (6, [.ref (md), .int (wz), .ref (mh), .ref (pt), .ref (ch)])) := (fr6 (mk) (hq_tne hy0 hy6 (by simp))).trans (hc0)
    have fx361 : V1 (ch) = some (.inr (9, [.ref (ch + 1), .int (cz)])) := (fr6 (ch) (hq_tne hy4 hy6 (by simp))).trans (hc5)
    have fx362 : V1 (ch + 1) = some (.inl (cs 0, 30, .inl (cf))) := (fr6 (ch + 1) (hq_tne hy5 hy6 (by simp))).trans (hc6)
    have hl363 : (0 : Int32).toInt = 0 := by decide
    have fx364 : V1 (fl + 1) = some (.inl (cs 4, 4, .inr (.inr (.inr (.inr (gf)))))) := (fr6 (fl + 1) (hq_tne hy7 hy6 (by simp))).trans (hc4)
    exact hp_vret hx hb hr hlocks hZ ⟨rfl, hP, (fun x8 hne0 hne1 hne2 hne3 => fr6 x8 (by omega)), 0, wz, cz, cf, [], ho7, fx364, fx360, fx361, fx362, by omega, hx_FM.nil, Or.inl ⟨by omega, rfl⟩, by decide, (fun u9 hu9 => by cases hu9)⟩ dX6_makePlain_19

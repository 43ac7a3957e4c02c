set_option maxHeartbeats 4000000 in
set_option maxRecDepth 100000 in
theorem x_makeN (l : Launch) (D : va_G) (cs : Nat → ClassId) (B : Nat) (G : hq_G) (V : hp_V) (n : Nat) (hI : hq_I cs G V) (mk : Nat) (md : Nat) (mh : Nat) (pt : Nat) (ch : Nat) (qt : Nat) (bb : Nat) (t9 : Nat) (w : sp_W) (bk : sp_B) (c9 : Int) (v : Int32) (te : Int32) (pe : Int32) (wz : Int32) (bc : Int32) (bv : Int32) (bl : Int32) (nz : Int32) (cz : Int32) (cf : Nat → Int32) (vf : Nat → Int32) (gf : Nat → Option Nat) (hy0 : G (mk) = some (11, 0, 0, 0)) (hy1 : G (md) = some (8, 4, 0, 0)) (hy2 : G (mh) = some (8, 2, 0, 0)) (hy3 : G (pt) = some (8, 2, 0, 0)) (hy4 : G (ch) = some (0, 30, 0, 0)) (hy5 : G (ch + 1) = some (1, 30, 0, 0)) (hy6 : G (md + 1) = some (4, 4, 4, 0)) (hc0 : V (mk) = some (.inr (6, [.ref (md), .int (wz), .ref (mh), .ref (pt), .ref (ch)]))) (hc1 : V (qt) = some (.inr (0, [.ref (qt + 1), .int (bc), .ref (qt + 14), .ref (qt + 75), .int (bv), .ref (qt + 76), .int (bl)]))) (hc2 : V (qt + 75) = some (.inl (cs 1, 30, .inl (vf)))) (hc3 : V (md) = some (.inr (3, [.ref (md + 1), .int (nz)]))) (hc4 : V (md + 1) = some (.inl (cs 4, 4, .inr (.inr (.inr (.inr (gf))))))) (hc5 : V (ch) = some (.inr (9, [.ref (ch + 1), .int (cz)]))) (hc6 : V (ch + 1) = some (.inl (cs 0, 30, .inl (cf)))) (hp0 : hx_LL cs V (qt + 77) w bk.2.2.2) (hp1 : hx_NL cs V (qt + 15) 30 w bk.2.1) (hp2 : hx_BS cs V qt) (hbl : bl.toInt = (bk.2.2.2.length : Int)) (hgd : sp_good w bk) (hgd2 : sp_good2 bk) (hBT : hx_BT G qt bb) (hv : 0 ≤ v.toInt ∧ v.toInt < 30) (hc9 : (vf v.toNatClampNeg).toInt = c9) (ht9 : bk.2.1[v.toNatClampNeg]? = some t9) (hg8 : sp_g8 w bk) (hnl : (sp_nm w t9).length ≤ 12) (hsh : md = mk + 1 ∧ mh = mk + 19 ∧ pt = mk + 29 ∧ ch = mk + 39) (hne : mk + 46 ≤ qt) (hb60 : (bk.2.2.2.length : Int) ≤ 60) (hcz : 0 ≤ cz.toInt ∧ cz.toInt ≤ 30) (hgf : ∀ j, j < 4 → gf j = some (md + 2 + 4 * j)) (hFT : hx_FT G md) (hn3 : (sp_nf 3 v.toInt c9 te.toInt pe.toInt bk.2.2.2 0) = -1) : hp_M l yX6_makeAt cX6_makeAt 9 none ({ frames := 6, cells := 0, slots := 0, locals := 149 }) D cs B V n [.ref (mk), .ref (qt), .int (v), .int (te), .int (pe)] (hp_QV D cs B (fun V' n' => n = n' ∧ hq_P cs G (fun _ => true) V V' ∧ (∀ x, x ≠ mk → x ≠ ch → x ≠ ch + 1 → (x < md ∨ md + 18 ≤ x) → V' x = V x) ∧ (∃ nz1 : Int32, ∃ wz1 : Int32, ∃ cz1 : Int32, ∃ cf1 : Nat → Int32, ∃ L : List (List Int), V' (md) = some (.inr (3, [.ref (md + 1), .int (nz1)])) ∧ V' (md + 1) = some (.inl (cs 4, 4, .inr (.inr (.inr (.inr (gf)))))) ∧ V' (mk) = some (.inr (6, [.ref (md), .int (wz1), .ref (mh), .ref (pt), .ref (ch)])) ∧ V' (ch) = some (.inr (9, [.ref (ch + 1), .int (cz1)])) ∧ V' (ch + 1) = some (.inl (cs 0, 30, .inl (cf1))) ∧ (nz1.toInt = (L.length : Int)) ∧ (hx_FM cs V' md L) ∧ (sp_FM (sp_nf 5 v.toInt c9 te.toInt pe.toInt bk.2.2.2 0) (sp_nf 1 v.toInt c9 te.toInt pe.toInt bk.2.2.2 0) (sp_ex w v.toInt c9 te.toInt pe.toInt bk.2.2.2 2) (sp_sa w (-1) (-1) bk.2.2.2 0 (sp_U w bk (sp_nm w t9) (sp_nf 0 v.toInt c9 te.toInt pe.toInt bk.2.2.2 0) (sp_nf 1 v.toInt c9 te.toInt pe.toInt bk.2.2.2 0))) L) ∧ (L.length ≤ 2) ∧ (∀ u ∈ L, u.length ≤ 30)))) 0 0 := by
  refine hp_walk (R0 := RX6) (by decide) rfl ?_ (Nat.le_of_ble_eq_true rfl)
  intro p e s m below meth c ls hx hb hr hts hown hlocks hin hml hZ hl
  have hP : hq_P cs G (fun _ => true) V V := hq_P.rf hI
  have hl : lv_has ls 9 [(0, .ref (mk)), (1, .ref (qt)), (2, .int (v)), (3, .int (te)), (4, .int (pe))] := hl
  have hb_v := hq_rng v
  have hb_te := hq_rng te
  have hb_pe := hq_rng pe
  have hb_wz := hq_rng wz
  have hb_bc := hq_rng bc
  have hb_bv := hq_rng bv
  have hb_bl := hq_rng bl
  have hb_nz := hq_rng nz
  have hb_cz := hq_rng cz
  have hf_6 := hq_rgB hI hy5 hc6
  obtain ⟨⟨g1, hg1, hr1⟩, ⟨g2, hg2, hr2⟩, ⟨g3, hg3, hr3⟩⟩ := id hp2
  have hll9 := hp0.1
  refine lv_aload_n hx hb dX6_makeAt_0 rfl (lv_at hl 1 rfl) ?_
  refine lv_iconst (v := 3) hx hb dX6_makeAt_1 (by decide) ?_
  refine lv_iconst (v := 0) hx hb dX6_makeAt_2 (by decide) ?_
  refine lv_iload_n hx hb dX6_makeAt_3 rfl (lv_at hl 2 rfl) ?_
  refine lv_iload_n hx hb dX6_makeAt_4 rfl (lv_at hl 3 rfl) ?_
  refine lv_iload hx hb dX6_makeAt_5 (lv_at hl 4 rfl) ?_
  have hl1 : (3 : Int32).toInt = 3 := by decide
  have hl2 : (0 : Int32).toInt = 0 := by decide
  refine hp_calli (hp_runV (As := [.int (3), .int (0), .int (v), .int (te), .int (pe)]) (rest := []) hx hb hml hown hts (x_nf l D cs B G V n hP.1 (qt) (c9) (w) (bk) (3) (0) (v) (te) (pe) (bc) (bv) (bl) (vf)  hc1 hc2 hp0 hp2 hbl (by omega) (by omega) hc9) hZ hc1 cv_X6_33 rfl rfl ⟨Nat.le_of_ble_eq_true rfl, Nat.le_of_ble_eq_true rfl⟩ rfl hl.1 rfl (Nat.le_of_ble_eq_true rfl) dX6_makeAt_7 ⟨(Nat.le_of_ble_eq_true rfl), (Nat.le_of_ble_eq_true rfl)⟩) hZ (fun r6 V3 n4 _ _ hw5 hZ => ?_)
  obtain ⟨rfl, rfl, hp9⟩ := hw5
  have b10 := hq_rng r6
  have hf3 := hp9
  rw [show (3 : Int32).toInt = 3 by decide, show (0 : Int32).toNatClampNeg = 0 by decide, show (0 : Int32).toInt = 0 by decide, List.drop_zero, hn3] at hf3
  refine lv_istore (lv' := [(5, .int (r6)), (0, .ref (mk)), (1, .ref (qt)), (2, .int (v)), (3, .int (te)), (4, .int (pe))]) hx hb dX6_makeAt_10 hl (by decide) rfl (fun ls hl => ?_)
  refine lv_iload hx hb dX6_makeAt_12 (lv_at hl 0 rfl) ?_
  refine lv_iconst (v := -1) hx hb dX6_makeAt_14 (by decide) ?_
  have hl11 : (-1 : Int32).toInt = -1 := by decide
  refine lv_icmp_eq (tgt := 46) hx hb dX6_makeAt_15 (by decide) (fun c12 => ?_) (fun c12 => absurd ((Int32.toInt_inj.mp (by omega) : r6 = -1)) c12)
  refine lv_aload_n hx hb dX6_makeAt_46 rfl (lv_at hl 1 rfl) ?_
  refine lv_aload_n hx hb dX6_makeAt_47 rfl (lv_at hl 2 rfl) ?_
  refine lv_aload_n hx hb dX6_makeAt_48 rfl (lv_at hl 1 rfl) ?_
  refine hp_get (v := .ref (md)) hx hb hts hown hZ hc0 fl_X6_14 rfl dX6_makeAt_49 ?_
  refine lv_iload_n hx hb dX6_makeAt_52 rfl (lv_at hl 3 rfl) ?_
  refine lv_iload_n hx hb dX6_makeAt_53 rfl (lv_at hl 4 rfl) ?_
  refine lv_iload hx hb dX6_makeAt_54 (lv_at hl 5 rfl) ?_
  refine hp_callv (hp_runV (As := [.ref (qt), .ref (md), .int (v), .int (te), .int (pe)]) (rest := []) hx hb hml hown hts (x_plain l D cs B G V n hP.1 (md) (mk) (md) (mh) (pt) (ch) (qt) (bb) (t9) (w) (bk) (c9) (v) (te) (pe) (wz) (bc) (bv) (bl) (nz) (cz) (cf) (vf) (gf) hy0 hy1 hy2 hy3 hy4 hy5 hy1 hy6 hc0 hc1 hc2 hc3 hc4 hc5 hc6 hp0 hp1 hp2 hbl hgd hgd2 hBT hv hc9 ht9 hg8 hnl hsh (by omega) hb60 (by omega) hgf hFT (by omega)) hZ hc0 cv_X6_39 rfl rfl ⟨Nat.le_of_ble_eq_true rfl, Nat.le_of_ble_eq_true rfl⟩ rfl hl.1 rfl (Nat.le_of_ble_eq_true rfl) dX6_makeAt_56 ⟨(Nat.le_of_ble_eq_true rfl), (Nat.le_of_ble_eq_true rfl)⟩) hZ (fun V13 n14 _ _ hw15 hZ => ?_)
  obtain ⟨rfl, hq17, fr18, z19, z20, z21, u22, u23, ho24, ho25, ho26, ho27, ho28, hp29, hp30, hp31, hp32, hp33⟩ := hw15
  have b34 := hq_rng z19
  have b35 := hq_rng z20
  have b36 := hq_rng z21
  have hP := hP.trans hq17 (fun _ h => Bool.noConfusion h)
  have hf37 := hq_rgB hP.1 hy5 ho28
  exact hp_vret hx hb hr hlocks hZ ⟨rfl, hP, (fun x8 hne0 hne1 hne2 hne3 => fr18 x8 hne0 hne1 hne2 hne3), z19, z20, z21, u22, u23, ho24, ho25, ho26, ho27, ho28, hp29, hp30, hp31, hp32, hp33⟩ dX6_makeAt_59

set_option maxHeartbeats 4000000 in
set_option maxRecDepth 100000 in
theorem x_ps (l : Launch) (D : va_G) (cs : Nat → ClassId) (B : Nat) (G : hq_G) (V : hp_V) (n : Nat) (hI : hq_I cs G V) (qt : Nat) (t : Nat) (bb : Nat) (t9 : Nat) (w : sp_W) (bk : sp_B) (v : Int32) (k : Int32) (bc : Int32) (bv : Int32) (bl : Int32) (z : Int32) (f : Nat → Int32) (hy0 : G (t) = some (0, 30, 0, 0)) (hy1 : G (t + 1) = some (1, 30, 0, 0)) (hc0 : V (qt) = some (.inr (0, [.ref (qt + 1), .int (bc), .ref (qt + 14), .ref (qt + 75), .int (bv), .ref (qt + 76), .int (bl)]))) (hc1 : V (t) = some (.inr (9, [.ref (t + 1), .int (z)]))) (hc2 : V (t + 1) = some (.inl (cs 0, 30, .inl (f)))) (hp0 : hx_LL cs V (qt + 77) w bk.2.2.2) (hp1 : hx_NL cs V (qt + 15) 30 w bk.2.1) (hp2 : hx_BS cs V qt) (hbl : bl.toInt = (bk.2.2.2.length : Int)) (hgd : sp_good w bk) (hgd2 : sp_good2 bk) (hBT : hx_BT G qt bb) (ht9 : bk.2.1[v.toNatClampNeg]? = some t9) (hv : 0 ≤ v.toInt) (hk : k.toInt = -1 ∨ (0 ≤ k.toInt ∧ k.toInt < (bk.2.2.2.length : Int))) (hk0 : ∀ x, 0 ≤ k.toInt → bk.2.2.2[k.toInt.toNat]? = some x → x.1 = 0) (hzz : 0 ≤ z.toInt ∧ z.toInt ≤ 30) (hne : t + 1 < qt) : hp_M l yX0_putStem cX0_putStem 6 (some .boolean) ({ frames := 3, cells := 0, slots := 0, locals := 66 }) D cs B V n [.ref (qt), .int (v), .int (k), .ref (t)] (hp_QI D cs B (fun r V' n' => n = n' ∧ hq_P cs G (fun _ => true) V V' ∧ (∀ x, x ≠ t → x ≠ t + 1 → V' x = V x) ∧ (∃ z1 : Int32, ∃ f1 : Nat → Int32, V' (t) = some (.inr (9, [.ref (t + 1), .int (z1)])) ∧ V' (t + 1) = some (.inl (cs 0, 30, .inl (f1))) ∧ (sp_rp z1 f1 (sp_stm w bk (sp_nm w t9) k.toInt)) ∧ (r.toInt = 1 ↔ (¬ k.toInt = -1 ∧ ∀ x, bk.2.2.2[k.toInt.toNat]? = some x → ¬ sp_lp (sp_F w x) (sp_nm w t9) = -1)) ∧ ((0 ≤ z1.toInt ∧ z1.toInt ≤ 30) ∧ (r.toInt = 0 ∨ r.toInt = 1))))) 0 0 := by
  refine hp_walk (R0 := RX0) (by decide) rfl ?_ (Nat.le_of_ble_eq_true rfl)
  intro p e s m below meth c ls hx hb hr hts hown hlocks hin hml hZ hl
  have hP : hq_P cs G (fun _ => true) V V := hq_P.rf hI
  have hl : lv_has ls 6 [(0, .ref (qt)), (1, .int (v)), (2, .int (k)), (3, .ref (t))] := hl
  have hb_v := hq_rng v
  have hb_k := hq_rng k
  have hb_bc := hq_rng bc
  have hb_bv := hq_rng bv
  have hb_bl := hq_rng bl
  have hb_z := hq_rng z
  have hf_2 := hq_rgB hI hy1 hc2
  obtain ⟨⟨g1, hg1, hr1⟩, ⟨g2, hg2, hr2⟩, ⟨g3, hg3, hr3⟩⟩ := id hp2
  have hll9 := hp0.1
  refine lv_aload_n hx hb dX0_putStem_0 rfl (lv_at hl 0 rfl) ?_
  refine hp_get (v := .ref (qt + 14)) hx hb hts hown hZ hc0 fl_X0_20 rfl dX0_putStem_1 ?_
  refine lv_iload_n hx hb dX0_putStem_4 rfl (lv_at hl 1 rfl) ?_
  obtain ⟨ta, hta⟩ : ∃ ta, ta = qt + 15 + 2 * (v).toNatClampNeg := ⟨_, rfl⟩
  have hvv : (v.toNatClampNeg : Int) = v.toInt := (hq_nn (by omega)).1.symm
  have hvl := (List.getElem?_eq_some_iff.mp ht9).1
  have hnl := hp1.1
  have hta1 : g2 (v).toNatClampNeg = some ta := by rw [hta]; exact hr2 _ (by omega)
  obtain ⟨tz, tf, ht1, ht2, ht3, ht4, ht5⟩ := (show hx_N cs V ta w t9 by rw [hta]; exact hp1.2 _ _ ht9)
  have hnm := sp_nm_rp ht3.1 ht4 ht5
  have hnm1 := hnm.1
  have hyt := hBT.2.1 (v).toNatClampNeg (by omega)
  rw [← hta] at hyt
  have hfrt := hq_rgB hP.1 hyt.2 ht2
  have hb_tz := hq_rng tz
  refine hp_aald (v := .ref (ta)) hx hb hZ 7 hg2 rfl (hq_in (by omega) (by omega)) (by rw [hta1]; rfl) dX0_putStem_5 ?_
  refine lv_astore (lv' := [(4, .ref (ta)), (0, .ref (qt)), (1, .int (v)), (2, .int (k)), (3, .ref (t))]) hx hb dX0_putStem_6 hl (by decide) rfl (fun ls hl => ?_)
  refine lv_iload_n hx hb dX0_putStem_8 rfl (lv_at hl 3 rfl) ?_
  refine lv_iconst (v := -1) hx hb dX0_putStem_9 (by decide) ?_
  refine lv_icmp_ne (tgt := 17) hx hb dX0_putStem_10 (by decide) (fun c1 => ?_) (fun c1 => ?_)
  · have c1 : ¬ (k).toInt = (-1 : Int) := fun h9 => c1 (hq_eqi.mpr h9)
    have hkr : 0 ≤ k.toInt ∧ k.toInt < (bk.2.2.2.length : Int) := by rcases hk with g9 | g9; (· exact absurd g9 c1); (· exact g9)
    refine lv_aload hx hb dX0_putStem_17 (lv_at hl 0 rfl) ?_
    refine lv_aload_n hx hb dX0_putStem_19 rfl (lv_at hl 1 rfl) ?_
    refine hp_get (v := .ref (qt + 76)) hx hb hts hown hZ hc0 fl_X0_29 rfl dX0_putStem_20 ?_
    refine lv_iload_n hx hb dX0_putStem_23 rfl (lv_at hl 3 rfl) ?_
    obtain ⟨la9, hla9⟩ : ∃ ta, ta = qt + 77 + 5 * (k).toNatClampNeg := ⟨_, rfl⟩
    have hiila9 : ((k).toNatClampNeg : Int) = (k).toInt := (hq_nn (by omega)).1.symm
    have hla91 : g3 (k).toNatClampNeg = some la9 := by rw [hla9]; exact hr3 _ (by omega)
    obtain ⟨xla9, hxla9⟩ : ∃ t, bk.2.2.2[(k).toNatClampNeg]? = some t := ⟨_, List.getElem?_eq_getElem (by omega)⟩
    obtain ⟨ak, ao, at9, ap, ah, aht, apa, ala, ha1, ha2, ha3, ha4, ha5, ha6, ha7, hlt1, hlt2⟩ := (show hx_LN cs V la9 w xla9 by rw [hla9]; exact hp0.2 _ _ hxla9)
    obtain ⟨fz, ff, hfz1, hfz2, hfz3, hfz4, hfz5⟩ := hlt1.rp
    obtain ⟨sz, sf, hsz1, hsz2, hsz3, hsz4, hsz5⟩ := hlt2.rp
    have hfzl := hfz5.1
    have hszl := hsz5.1
    obtain ⟨hgl1, hgl2, hgl3⟩ := hgd.1 _ _ hxla9
    obtain ⟨hgm1, hgm2, hgm3, hgm4⟩ := hgd2 _ _ hxla9
    have hyl := hBT.2.2 (k).toNatClampNeg (by omega)
    rw [← hla9] at hyl
    have hfrf := hq_rgB hP.1 hyl.2.2.1 hfz2
    have hfrs := hq_rgB hP.1 hyl.2.2.2.2 hsz2
    have hfe := (show sp_rp fz ff (sp_F w xla9) from hfz5).1
    have hse := (show sp_rp sz sf (sp_S2 w xla9) from hsz5).1
    have hnil0 : ([] : List Int).length = 0 := rfl
    have hF0 : 0 < (sp_F w xla9).length := by have h9 := hgm3 (hk0 _ (by omega) hxla9); have h8 := hfz5.1; unfold sp_F; omega
    refine hp_aald (v := .ref (la9)) hx hb hZ 6 hg3 rfl (hq_in (by omega) (by omega)) (by rw [hla91]; rfl) dX0_putStem_24 ?_
    refine hp_get (v := .ref (la9 + 1)) hx hb hts hown hZ ha1 fl_X0_68 rfl dX0_putStem_25 ?_
    refine hp_calli (hp_runV (As := [.ref (la9 + 1)]) (rest := []) hx hb hml hown hts (x_lp l D cs B G V n hP.1 (ta) (12) (la9 + 1) (8) (tz) (tf) ((sp_nm w t9)) (fz) (ff) ((sp_F w xla9))  ht1 ht2 hfz1 hfz2  hnm hfz5 (by omega) (by omega) (by decide) (by decide) hF0) hZ ht1 cv_X0_72 rfl rfl ⟨Nat.le_of_ble_eq_true rfl, Nat.le_of_ble_eq_true rfl⟩ rfl hl.1 rfl (Nat.le_of_ble_eq_true rfl) dX0_putStem_28 ⟨(Nat.le_of_ble_eq_true rfl), (Nat.le_of_ble_eq_true rfl)⟩) hZ (fun r5 V2 n3 _ _ hw4 hZ => ?_)
    obtain ⟨rfl, rfl, hp8⟩ := hw4
    have b9 := hq_rng r5
    refine lv_istore (lv' := [(5, .int (r5)), (4, .ref (ta)), (0, .ref (qt)), (1, .int (v)), (2, .int (k)), (3, .ref (t))]) hx hb dX0_putStem_31 hl (by decide) rfl (fun ls hl => ?_)
    refine lv_iload hx hb dX0_putStem_33 (lv_at hl 0 rfl) ?_
    refine lv_iconst (v := -1) hx hb dX0_putStem_35 (by decide) ?_
    refine lv_icmp_ne (tgt := 47) hx hb dX0_putStem_36 (by decide) (fun c10 => ?_) (fun c10 => ?_)
    · have c10 : ¬ (r5).toInt = (-1 : Int) := fun h9 => c10 (hq_eqi.mpr h9)
      obtain ⟨hlp1, hlp2, hlp3⟩ := sp_lp_in (u := (sp_nm w t9)) hF0 (by omega)
      refine lv_aload_n hx hb dX0_putStem_47 rfl (lv_at hl 5 rfl) ?_
      refine hp_callv (hp_runV (As := []) (rest := []) hx hb hml hown hts (x_clear l D cs B G V n hP.1 (t) (30) (z) hy0 hy1 hc1  (by decide)) hZ hc1 cv_X0_80 rfl rfl ⟨Nat.le_of_ble_eq_true rfl, Nat.le_of_ble_eq_true rfl⟩ rfl hl.1 rfl (Nat.le_of_ble_eq_true rfl) dX0_putStem_48 ⟨(Nat.le_of_ble_eq_true rfl), (Nat.le_of_ble_eq_true rfl)⟩) hZ (fun V11 n12 _ _ hw13 hZ => ?_)
      obtain ⟨rfl, hq15, fr16, ho17⟩ := hw13
      have hP := hP.trans hq15 (fun _ h => Bool.noConfusion h)
      refine lv_aload_n hx hb dX0_putStem_51 rfl (lv_at hl 5 rfl) ?_
      refine lv_aload hx hb dX0_putStem_52 (lv_at hl 1 rfl) ?_
      refine lv_iconst (v := 0) hx hb dX0_putStem_54 (by decide) ?_
      refine lv_iload hx hb dX0_putStem_55 (lv_at hl 0 rfl) ?_
      have fx18 : V11 (t + 1) = some (.inl (cs 0, 30, .inl (f))) := (fr16 (t + 1) (hq_tne hy1 hy0 (by simp))).trans (hc2)
      have fx19 : V11 (ta) = some (.inr (9, [.ref (ta + 1), .int (tz)])) := (fr16 (ta) (by omega)).trans (ht1)
      have fx20 : V11 (ta + 1) = some (.inl (cs 0, 12, .inl (tf))) := (fr16 (ta + 1) (hq_tne hyt.2 hy0 (by simp))).trans (ht2)
      have hl21 : (0 : Int32).toInt = 0 := by decide
      have hl22 : (0 : Int32).toInt = 0 := by decide
      refine hp_calli (hp_runV (As := [.ref (ta), .int (0), .int (r5)]) (rest := []) hx hb hml hown hts (x_addP l D cs B G V11 n hP.1 (t) (30) (ta) (12) (0) (r5) (0) (f) (([] : List Int)) (tz) (tf) ((sp_nm w t9)) hy0 hy1 hyt.2 ho17 fx18 fx19 fx20  sp_rp.nil hnm (by omega) (by omega) (by decide) (by decide) (by omega) (by omega)) hZ ho17 cv_X0_83 rfl rfl ⟨Nat.le_of_ble_eq_true rfl, Nat.le_of_ble_eq_true rfl⟩ rfl hl.1 rfl (Nat.le_of_ble_eq_true rfl) dX0_putStem_57 ⟨(Nat.le_of_ble_eq_true rfl), (Nat.le_of_ble_eq_true rfl)⟩) hZ (fun r26 V23 n24 _ _ hw25 hZ => ?_)
      obtain ⟨rfl, hq27, fr28, z29, u30, ho31, ho32, hp33, hp34⟩ := hw25
      have b35 := hq_rng z29
      have hP := hP.trans hq27 (fun _ h => Bool.noConfusion h)
      have hf36 := hq_rgB hP.1 hy1 ho32
      have b37 := hq_rng r26
      have hap38 : sp_rp z29 u30 (([] : List Int) ++ ((sp_nm w t9).drop (0 : Int32).toInt.toNat).take ((r5 : Int32).toInt - (0 : Int32).toInt).toNat) := by rcases hp33 with g9 | g9; (· exact g9.2.2); (· exfalso; have g8 := g9.1; omega)
      have hal39 := hap38.1
      have b40 := hp34
      have hal41 : (([] : List Int) ++ ((sp_nm w t9).drop (0 : Int32).toInt.toNat).take ((r5 : Int32).toInt - (0 : Int32).toInt).toNat).length = ([] : List Int).length + ((r5 : Int32).toInt - (0 : Int32).toInt).toNat := by rw [List.length_append, List.length_take, List.length_drop]; have h0 : (0 : Int32).toInt = 0 := rfl; omega
      refine lv_pop hx hb dX0_putStem_60 rfl ?_
      refine lv_aload_n hx hb dX0_putStem_61 rfl (lv_at hl 5 rfl) ?_
      refine lv_aload_n hx hb dX0_putStem_62 rfl (lv_at hl 2 rfl) ?_
      have fx42 : V23 (qt) = some (.inr (0, [.ref (qt + 1), .int (bc), .ref (qt + 14), .ref (qt + 75), .int (bv), .ref (qt + 76), .int (bl)])) := (fr28 (qt) (by omega) (by omega)).trans ((fr16 (qt) (by omega)).trans (hc0))
      refine hp_get (v := .ref (qt + 76)) hx hb hts hown hZ fx42 fl_X0_29 rfl dX0_putStem_63 ?_
      refine lv_iload_n hx hb dX0_putStem_66 rfl (lv_at hl 4 rfl) ?_
      have fx43 : V23 (qt + 76) = some (.inl (cs 6, 60, .inr (.inr (.inr (.inr (g3)))))) := (fr28 (qt + 76) (by omega) (by omega)).trans ((fr16 (qt + 76) (by omega)).trans (hg3))
      refine hp_aald (v := .ref (la9)) hx hb hZ 6 fx43 rfl (hq_in (by omega) (by omega)) (by rw [hla91]; rfl) dX0_putStem_67 ?_
      have fx44 : V23 (la9) = some (.inr (5, [.int (ak), .int (ao), .int (at9), .int (ap), .int (ah), .int (aht), .int (apa), .int (ala), .ref (la9 + 1), .ref (la9 + 3)])) := (fr28 (la9) (by omega) (by omega)).trans ((fr16 (la9) (by omega)).trans (ha1))
      refine hp_get (v := .ref (la9 + 3)) hx hb hts hown hZ fx44 fl_X0_87 rfl dX0_putStem_68 ?_
      have fx45 : V23 (la9 + 3) = some (.inr (9, [.ref (la9 + 4), .int (sz)])) := (fr28 (la9 + 3) (by omega) (by omega)).trans ((fr16 (la9 + 3) (by omega)).trans (hsz1))
      have fx46 : V23 (la9 + 4) = some (.inl (cs 0, 8, .inl (sf))) := (fr28 (la9 + 4) (hq_tne hyl.2.2.2.2 hy0 (by simp)) (hq_tne hyl.2.2.2.2 hy1 (by simp))).trans ((fr16 (la9 + 4) (hq_tne hyl.2.2.2.2 hy0 (by simp))).trans (hsz2))
      refine hp_calli (hp_runV (As := [.ref (la9 + 3)]) (rest := []) hx hb hml hown hts (x_addA l D cs B G V23 n hP.1 (t) (30) (la9 + 3) (8) (z29) (u30) ((([] : List Int) ++ ((sp_nm w t9).drop (0 : Int32).toInt.toNat).take ((r5 : Int32).toInt - (0 : Int32).toInt).toNat)) (sz) (sf) ((sp_S2 w xla9)) hy0 hy1 hyl.2.2.2.2 ho31 ho32 fx45 fx46  hap38 hsz5 (by omega) (by omega) (by decide) (by decide) (by omega)) hZ ho31 cv_X0_90 rfl rfl ⟨Nat.le_of_ble_eq_true rfl, Nat.le_of_ble_eq_true rfl⟩ rfl hl.1 rfl (Nat.le_of_ble_eq_true rfl) dX0_putStem_71 ⟨(Nat.le_of_ble_eq_true rfl), (Nat.le_of_ble_eq_true rfl)⟩) hZ (fun r50 V47 n48 _ _ hw49 hZ => ?_)
      obtain ⟨rfl, hq51, fr52, z53, u54, ho55, ho56, hp57, hp58⟩ := hw49
      have b59 := hq_rng z53
      have hP := hP.trans hq51 (fun _ h => Bool.noConfusion h)
      have hf60 := hq_rgB hP.1 hy1 ho56
      have b61 := hq_rng r50
      have hap62 : sp_rp z53 u54 ((([] : List Int) ++ ((sp_nm w t9).drop (0 : Int32).toInt.toNat).take ((r5 : Int32).toInt - (0 : Int32).toInt).toNat) ++ sp_S2 w xla9) := by rcases hp57 with g9 | g9; (· exact g9.2.2); (· exfalso; have g8 := g9.1; omega)
      have hal63 := hap62.1
      have b64 := hp58
      have hal65 : ((([] : List Int) ++ ((sp_nm w t9).drop (0 : Int32).toInt.toNat).take ((r5 : Int32).toInt - (0 : Int32).toInt).toNat) ++ sp_S2 w xla9).length = (([] : List Int) ++ ((sp_nm w t9).drop (0 : Int32).toInt.toNat).take ((r5 : Int32).toInt - (0 : Int32).toInt).toNat).length + (sp_S2 w xla9).length := List.length_append
      refine lv_pop hx hb dX0_putStem_74 rfl ?_
      refine lv_aload_n hx hb dX0_putStem_75 rfl (lv_at hl 5 rfl) ?_
      refine lv_aload hx hb dX0_putStem_76 (lv_at hl 1 rfl) ?_
      refine lv_iload hx hb dX0_putStem_78 (lv_at hl 0 rfl) ?_
      refine lv_aload_n hx hb dX0_putStem_80 rfl (lv_at hl 2 rfl) ?_
      have fx66 : V47 (qt) = some (.inr (0, [.ref (qt + 1), .int (bc), .ref (qt + 14), .ref (qt + 75), .int (bv), .ref (qt + 76), .int (bl)])) := (fr52 (qt) (by omega) (by omega)).trans (fx42)
      refine hp_get (v := .ref (qt + 76)) hx hb hts hown hZ fx66 fl_X0_29 rfl dX0_putStem_81 ?_
      refine lv_iload_n hx hb dX0_putStem_84 rfl (lv_at hl 4 rfl) ?_
      have fx67 : V47 (qt + 76) = some (.inl (cs 6, 60, .inr (.inr (.inr (.inr (g3)))))) := (fr52 (qt + 76) (by omega) (by omega)).trans (fx43)
      refine hp_aald (v := .ref (la9)) hx hb hZ 6 fx67 rfl (hq_in (by omega) (by omega)) (by rw [hla91]; rfl) dX0_putStem_85 ?_
      have fx68 : V47 (la9) = some (.inr (5, [.int (ak), .int (ao), .int (at9), .int (ap), .int (ah), .int (aht), .int (apa), .int (ala), .ref (la9 + 1), .ref (la9 + 3)])) := (fr52 (la9) (by omega) (by omega)).trans (fx44)
      refine hp_get (v := .ref (la9 + 1)) hx hb hts hown hZ fx68 fl_X0_68 rfl dX0_putStem_86 ?_
      have fx69 : V47 (la9 + 1) = some (.inr (9, [.ref (la9 + 2), .int (fz)])) := (fr52 (la9 + 1) (by omega) (by omega)).trans ((fr28 (la9 + 1) (by omega) (by omega)).trans ((fr16 (la9 + 1) (by omega)).trans (hfz1)))
      refine hp_get (v := .int (fz)) hx hb hts hown hZ fx69 fl_X0_93 rfl dX0_putStem_89 ?_
      refine lv_iadd hx hb dX0_putStem_92 ?_
      refine lv_topi (fun y70 ey71 => ?_)
      obtain ⟨k72, hk73, b74, b75⟩ := hq_add (r5) (fz)
      rw [← ey71] at hk73 b74 b75
      have hk73 : (y70).toInt = (r5).toInt + (fz).toInt + k72 * 4294967296 := hk73
      obtain rfl : k72 = 0 := by omega
      refine lv_aload hx hb dX0_putStem_93 (lv_at hl 1 rfl) ?_
      have fx76 : V47 (ta) = some (.inr (9, [.ref (ta + 1), .int (tz)])) := (fr52 (ta) (by omega) (by omega)).trans ((fr28 (ta) (by omega) (by omega)).trans (fx19))
      refine hp_get (v := .int (tz)) hx hb hts hown hZ fx76 fl_X0_93 rfl dX0_putStem_95 ?_
      have fx77 : V47 (ta + 1) = some (.inl (cs 0, 12, .inl (tf))) := (fr52 (ta + 1) (hq_tne hyt.2 hy0 (by simp)) (hq_tne hyt.2 hy1 (by simp))).trans ((fr28 (ta + 1) (hq_tne hyt.2 hy0 (by simp)) (hq_tne hyt.2 hy1 (by simp))).trans (fx20))
      refine hp_calli (hp_runV (As := [.ref (ta), .int (y70), .int (tz)]) (rest := []) hx hb hml hown hts (x_addP l D cs B G V47 n hP.1 (t) (30) (ta) (12) (y70) (tz) (z53) (u54) (((([] : List Int) ++ ((sp_nm w t9).drop (0 : Int32).toInt.toNat).take ((r5 : Int32).toInt - (0 : Int32).toInt).toNat) ++ sp_S2 w xla9)) (tz) (tf) ((sp_nm w t9)) hy0 hy1 hyt.2 ho55 ho56 fx76 fx77  hap62 hnm (by omega) (by omega) (by decide) (by decide) (by omega) (by omega)) hZ ho55 cv_X0_83 rfl rfl ⟨Nat.le_of_ble_eq_true rfl, Nat.le_of_ble_eq_true rfl⟩ rfl hl.1 rfl (Nat.le_of_ble_eq_true rfl) dX0_putStem_98 ⟨(Nat.le_of_ble_eq_true rfl), (Nat.le_of_ble_eq_true rfl)⟩) hZ (fun r81 V78 n79 _ _ hw80 hZ => ?_)
      obtain ⟨rfl, hq82, fr83, z84, u85, ho86, ho87, hp88, hp89⟩ := hw80
      have b90 := hq_rng z84
      have hP := hP.trans hq82 (fun _ h => Bool.noConfusion h)
      have hf91 := hq_rgB hP.1 hy1 ho87
      have b92 := hq_rng r81
      have hap93 : sp_rp z84 u85 (((([] : List Int) ++ ((sp_nm w t9).drop (0 : Int32).toInt.toNat).take ((r5 : Int32).toInt - (0 : Int32).toInt).toNat) ++ sp_S2 w xla9) ++ ((sp_nm w t9).drop (y70 : Int32).toInt.toNat).take ((tz : Int32).toInt - (y70 : Int32).toInt).toNat) := by rcases hp88 with g9 | g9; (· exact g9.2.2); (· exfalso; have g8 := g9.1; omega)
      have hal94 := hap93.1
      have b95 := hp89
      have hal96 : (((([] : List Int) ++ ((sp_nm w t9).drop (0 : Int32).toInt.toNat).take ((r5 : Int32).toInt - (0 : Int32).toInt).toNat) ++ sp_S2 w xla9) ++ ((sp_nm w t9).drop (y70 : Int32).toInt.toNat).take ((tz : Int32).toInt - (y70 : Int32).toInt).toNat).length = ((([] : List Int) ++ ((sp_nm w t9).drop (0 : Int32).toInt.toNat).take ((r5 : Int32).toInt - (0 : Int32).toInt).toNat) ++ sp_S2 w xla9).length + ((tz : Int32).toInt - (y70 : Int32).toInt).toNat := by rw [List.length_append, List.length_take, List.length_drop]; omega
      refine lv_pop hx hb dX0_putStem_101 rfl ?_
      refine lv_iconst (v := 1) hx hb dX0_putStem_102 (by decide) ?_
      have hl97 : (1 : Int32).toInt = 1 := by decide
      have heq : (((([] : List Int) ++ ((sp_nm w t9).drop (0 : Int32).toInt.toNat).take ((r5 : Int32).toInt - (0 : Int32).toInt).toNat) ++ sp_S2 w xla9) ++ ((sp_nm w t9).drop (y70 : Int32).toInt.toNat).take ((tz : Int32).toInt - (y70 : Int32).toInt).toNat) = sp_cg (sp_F w xla9) (sp_S2 w xla9) (sp_nm w t9) (sp_lp (sp_F w xla9) (sp_nm w t9)).toNat := by rw [show (0 : Int32).toInt = 0 from rfl, Int.toNat_zero, List.drop_zero, List.nil_append, show ((r5).toInt - 0).toNat = (sp_lp (sp_F w xla9) (sp_nm w t9)).toNat by omega, List.append_assoc]; unfold sp_cg; congr 2; rw [List.take_of_length_le (by rw [List.length_drop]; omega)]; congr 1; omega
      exact hp_zret hx hb hr rfl hlocks hZ ⟨rfl, hP, (fun x8 hne0 hne1 => (fr83 x8 hne0 hne1).trans ((fr52 x8 hne0 hne1).trans ((fr28 x8 hne0 hne1).trans (fr16 x8 hne0)))), z84, u85, ho86, ho87, (by rw [sp_stm_y (by omega) hxla9 (by omega), ← heq]; exact hap93), ⟨fun g9 => ⟨by omega, fun x9 hx9 => by cases hxla9.symm.trans hx9; omega⟩, fun g9 => by omega⟩, by omega⟩ dX0_putStem_103
    · have c10 : (r5).toInt = (-1 : Int) := hq_eqi.mp c10
      refine lv_aload_n hx hb dX0_putStem_39 rfl (lv_at hl 5 rfl) ?_
      refine lv_aload hx hb dX0_putStem_40 (lv_at hl 1 rfl) ?_
      refine hp_callv (hp_runV (As := [.ref (ta)]) (rest := []) hx hb hml hown hts (x_set l D cs B G V n hP.1 (t) (30) (ta) (12) (z) (f) (tz) (tf) hy0 hy1 hyt.2 hc1 hc2 ht1 ht2  (by omega) (by decide) (by decide) (by omega) (by omega)) hZ hc1 cv_X0_76 rfl rfl ⟨Nat.le_of_ble_eq_true rfl, Nat.le_of_ble_eq_true rfl⟩ rfl hl.1 rfl (Nat.le_of_ble_eq_true rfl) dX0_putStem_42 ⟨(Nat.le_of_ble_eq_true rfl), (Nat.le_of_ble_eq_true rfl)⟩) hZ (fun V98 n99 _ _ hw100 hZ => ?_)
      obtain ⟨rfl, hq102, fr103, z104, u105, ho106, ho107, hp108, hp109⟩ := hw100
      have b110 := hq_rng z104
      have hP := hP.trans hq102 (fun _ h => Bool.noConfusion h)
      have hf111 := hq_rgB hP.1 hy1 ho107
      refine lv_iconst (v := 0) hx hb dX0_putStem_45 (by decide) ?_
      have hl112 : (0 : Int32).toInt = 0 := by decide
      exact hp_zret hx hb hr rfl hlocks hZ ⟨rfl, hP, (fun x8 hne0 hne1 => fr103 x8 hne0 hne1), z104, u105, ho106, ho107, (by rw [sp_stm_n (by omega) hxla9 (by omega)]; exact ⟨by omega, fun k9 x9 hx9 => by have h9 := (List.getElem?_eq_some_iff.mp hx9).1; rw [hp109 k9 (by omega)]; exact hnm.2 k9 x9 hx9⟩), (by refine ⟨fun g9 => by omega, fun g9 => ?_⟩; exact absurd (g9.2 _ hxla9) (fun g8 => g8 (by omega))), by omega⟩ dX0_putStem_46
  · have c1 : (k).toInt = (-1 : Int) := hq_eqi.mp c1
    refine lv_iconst (v := -1) hx hb dX0_putStem_13 (by decide) ?_
    refine lv_goto (tgt := 31) hx hb dX0_putStem_14 (by decide) ?_
    refine lv_istore (lv' := [(5, .int (-1)), (4, .ref (ta)), (0, .ref (qt)), (1, .int (v)), (2, .int (k)), (3, .ref (t))]) hx hb dX0_putStem_31 hl (by decide) rfl (fun ls hl => ?_)
    refine lv_iload hx hb dX0_putStem_33 (lv_at hl 0 rfl) ?_
    refine lv_iconst (v := -1) hx hb dX0_putStem_35 (by decide) ?_
    refine lv_icmp_ne (tgt := 47) hx hb dX0_putStem_36 (by decide) (fun c113 => absurd (by decide) c113) (fun c113 => ?_)
    refine lv_aload_n hx hb dX0_putStem_39 rfl (lv_at hl 5 rfl) ?_
    refine lv_aload hx hb dX0_putStem_40 (lv_at hl 1 rfl) ?_
    refine hp_callv (hp_runV (As := [.ref (ta)]) (rest := []) hx hb hml hown hts (x_set l D cs B G V n hP.1 (t) (30) (ta) (12) (z) (f) (tz) (tf) hy0 hy1 hyt.2 hc1 hc2 ht1 ht2  (by omega) (by decide) (by decide) (by omega) (by omega)) hZ hc1 cv_X0_76 rfl rfl ⟨Nat.le_of_ble_eq_true rfl, Nat.le_of_ble_eq_true rfl⟩ rfl hl.1 rfl (Nat.le_of_ble_eq_true rfl) dX0_putStem_42 ⟨(Nat.le_of_ble_eq_true rfl), (Nat.le_of_ble_eq_true rfl)⟩) hZ (fun V114 n115 _ _ hw116 hZ => ?_)
    obtain ⟨rfl, hq118, fr119, z120, u121, ho122, ho123, hp124, hp125⟩ := hw116
    have b126 := hq_rng z120
    have hP := hP.trans hq118 (fun _ h => Bool.noConfusion h)
    have hf127 := hq_rgB hP.1 hy1 ho123
    refine lv_iconst (v := 0) hx hb dX0_putStem_45 (by decide) ?_
    have hl128 : (0 : Int32).toInt = 0 := by decide
    exact hp_zret hx hb hr rfl hlocks hZ ⟨rfl, hP, (fun x8 hne0 hne1 => fr119 x8 hne0 hne1), z120, u121, ho122, ho123, (by rw [sp_stm_0 (by omega)]; exact ⟨by omega, fun k9 x9 hx9 => by have h9 := (List.getElem?_eq_some_iff.mp hx9).1; rw [hp125 k9 (by omega)]; exact hnm.2 k9 x9 hx9⟩), ⟨fun g9 => by omega, fun g9 => by omega⟩, by omega⟩ dX0_putStem_46

/-- a loop's measure -/
theorem hq_dn {N a b : Int} {k : Nat} (hk : (N - a).toNat = k) (h : a < b) (h2 : a < N) : (N - b).toNat < k := by omega

set_option maxHeartbeats 4000000 in
set_option maxRecDepth 100000 in
theorem x_addExc (l : Launch) (D : va_G) (cs : Nat → ClassId) (B : Nat) (G : hq_G) (V : hp_V) (n : Nat) (hI : hq_I cs G V) (mk : Nat) (qt : Nat) (fl : Nat) (bb : Nat) (w : sp_W) (bk : sp_B) (c9 : Int) (v : Int32) (te : Int32) (pe : Int32) (bc : Int32) (bv : Int32) (bl : Int32) (nz : Int32) (vf : Nat → Int32) (gf : Nat → Option Nat) (hy0 : G (fl) = some (8, 4, 0, 0)) (hy1 : G (fl + 1) = some (4, 4, 4, 0)) (hc0 : V (qt) = some (.inr (0, [.ref (qt + 1), .int (bc), .ref (qt + 14), .ref (qt + 75), .int (bv), .ref (qt + 76), .int (bl)]))) (hc1 : V (qt + 75) = some (.inl (cs 1, 30, .inl (vf)))) (hc2 : V (fl) = some (.inr (3, [.ref (fl + 1), .int (nz)]))) (hc3 : V (fl + 1) = some (.inl (cs 4, 4, .inr (.inr (.inr (.inr (gf))))))) (hp0 : hx_LL cs V (qt + 77) w bk.2.2.2) (hp1 : hx_BS cs V qt) (hbl : bl.toInt = (bk.2.2.2.length : Int)) (hgd : sp_good w bk) (hgd2 : sp_good2 bk) (hBT : hx_BT G qt bb) (hv : 0 ≤ v.toInt ∧ v.toInt < 30) (hc9 : (vf v.toNatClampNeg).toInt = c9) (hgf : ∀ j, j < 4 → gf j = some (fl + 2 + 4 * j)) (hFT : hx_FT G fl) (hnz : nz.toInt = 0) (hne : fl + 18 ≤ qt) (hb60 : (bk.2.2.2.length : Int) ≤ 60) : hp_M l yX6_addExcepts cX6_addExcepts 9 none ({ frames := 4, cells := 0, slots := 0, locals := 92 }) D cs B V n [.ref (mk), .ref (qt), .ref (fl), .int (v), .int (te), .int (pe)] (hp_QV D cs B (fun V' n' => n = n' ∧ hq_P cs G (fun _ => true) V V' ∧ (∀ x, (x < fl ∨ fl + 18 ≤ x) → V' x = V x) ∧ (∃ nz1 : Int32, ∃ L : List (List Int), V' (fl) = some (.inr (3, [.ref (fl + 1), .int (nz1)])) ∧ V' (fl + 1) = some (.inl (cs 4, 4, .inr (.inr (.inr (.inr (gf)))))) ∧ (nz1.toInt = (L.length : Int)) ∧ (hx_FM cs V' fl L) ∧ (L = (sp_ex w v.toInt c9 te.toInt pe.toInt bk.2.2.2 2)) ∧ (L.length ≤ 2)))) 0 0 := by
  refine hp_walk (R0 := RX6) (by decide) rfl ?_ (Nat.le_of_ble_eq_true rfl)
  intro p e s m below meth c ls hx hb hr hts hown hlocks hin hml hZ hl
  have hP : hq_P cs G (fun _ => true) V V := hq_P.rf hI
  have hl : lv_has ls 9 [(0, .ref (mk)), (1, .ref (qt)), (2, .ref (fl)), (3, .int (v)), (4, .int (te)), (5, .int (pe))] := hl
  have hb_v := hq_rng v
  have hb_te := hq_rng te
  have hb_pe := hq_rng pe
  have hb_bc := hq_rng bc
  have hb_bv := hq_rng bv
  have hb_bl := hq_rng bl
  have hb_nz := hq_rng nz
  obtain ⟨⟨g1, hg1, hr1⟩, ⟨g2, hg2, hr2⟩, ⟨g3, hg3, hr3⟩⟩ := id hp1
  have hll9 := hp0.1
  have hb60n : bk.2.2.2.length ≤ 60 := by omega
  refine lv_aload_n hx hb dX6_addExcepts_0 rfl (lv_at hl 1 rfl) ?_
  refine lv_iconst (v := 4) hx hb dX6_addExcepts_1 (by decide) ?_
  refine lv_iconst (v := 0) hx hb dX6_addExcepts_2 (by decide) ?_
  refine lv_iload_n hx hb dX6_addExcepts_3 rfl (lv_at hl 3 rfl) ?_
  refine lv_iload hx hb dX6_addExcepts_4 (lv_at hl 4 rfl) ?_
  refine lv_iload hx hb dX6_addExcepts_6 (lv_at hl 5 rfl) ?_
  have hl1 : (4 : Int32).toInt = 4 := by decide
  have hl2 : (0 : Int32).toInt = 0 := by decide
  refine hp_calli (hp_runV (As := [.int (4), .int (0), .int (v), .int (te), .int (pe)]) (rest := []) hx hb hml hown hts (x_nf l D cs B G V n hP.1 (qt) (c9) (w) (bk) (4) (0) (v) (te) (pe) (bc) (bv) (bl) (vf)  hc0 hc1 hp0 hp1 hbl (by omega) (by omega) hc9) hZ hc0 cv_X6_33 rfl rfl ⟨Nat.le_of_ble_eq_true rfl, Nat.le_of_ble_eq_true rfl⟩ rfl hl.1 rfl (Nat.le_of_ble_eq_true rfl) dX6_addExcepts_8 ⟨(Nat.le_of_ble_eq_true rfl), (Nat.le_of_ble_eq_true rfl)⟩) hZ (fun r6 V3 n4 _ _ hw5 hZ => ?_)
  obtain ⟨rfl, rfl, hp9⟩ := hw5
  have b10 := hq_rng r6
  have hnf11 := hp9
  rw [show (4 : Int32).toInt = 4 by decide, show (0 : Int32).toNatClampNeg = 0 by decide, show (0 : Int32).toInt = 0 by decide] at hnf11
  refine lv_istore (lv' := [(6, .int (r6)), (0, .ref (mk)), (1, .ref (qt)), (2, .ref (fl)), (3, .int (v)), (4, .int (te)), (5, .int (pe))]) hx hb dX6_addExcepts_11 hl (by decide) rfl (fun ls hl => ?_)
  refine lv_iconst (v := 0) hx hb dX6_addExcepts_13 (by decide) ?_
  refine lv_istore (lv' := [(7, .int (0)), (6, .int (r6)), (0, .ref (mk)), (1, .ref (qt)), (2, .ref (fl)), (3, .int (v)), (4, .int (te)), (5, .int (pe))]) hx hb dX6_addExcepts_14 hl (by decide) rfl (fun ls hl => ?_)
  have hl16 : (0 : Int32).toInt = 0 := by decide
  suffices lp16 : ∀ (k9 : Nat) (V9 : hp_V) (H9 : Heap) (locs9 : List Loc) (ls : Array Slot) (x16 : Int32) (k16 : Int32) (L16 : List (List Int)) (m16 : Nat) (fz16 : Int32), (100 - k16.toInt).toNat = k9 → hp_Z D cs B s V9 H9 n locs9 → hq_P cs G (fun _ => true) V V9 → V9 (fl) = some (.inr (3, [.ref (fl + 1), .int (fz16)])) → V9 (fl + 1) = some (.inl (cs 4, 4, .inr (.inr (.inr (.inr (gf)))))) → (∀ x, (x < fl ∨ fl + 18 ≤ x) → V9 x = V x) → hx_LL cs V9 (qt + 77) w bk.2.2.2 → hx_BS cs V9 qt → 0 ≤ k16.toInt ∧ k16.toInt ≤ 2 → k16.toInt = (L16.length : Int) → fz16.toInt = (L16.length : Int) → m16 ≤ bk.2.2.2.length → (hx_FM cs V9 fl L16) → (L16 ++ (sp_ex w v.toInt c9 te.toInt pe.toInt (bk.2.2.2.drop m16) (2 - L16.length)) = (sp_ex w v.toInt c9 te.toInt pe.toInt bk.2.2.2 2)) → (x16.toInt = (sp_nf 4 v.toInt c9 te.toInt pe.toInt (bk.2.2.2.drop m16) ((m16 : Nat) : Int))) → lv_has ls 9 [(7, .int (k16)), (6, .int (x16)), (0, .ref (mk)), (1, .ref (qt)), (2, .ref (fl)), (3, .int (v)), (4, .int (te)), (5, .int (pe))] → W p l e ({ frames := 4, cells := 0, slots := 0, locals := 92 }) s m ([.ref (mk), .ref (qt), .ref (fl), .int (v), .int (te), .int (pe)] : List Value).toArray below meth c H9 locs9 0 0 (MQ below (hp_QV D cs B (fun V' n' => n = n' ∧ hq_P cs G (fun _ => true) V V' ∧ (∀ x, (x < fl ∨ fl + 18 ≤ x) → V' x = V x) ∧ (∃ nz1 : Int32, ∃ L : List (List Int), V' (fl) = some (.inr (3, [.ref (fl + 1), .int (nz1)])) ∧ V' (fl + 1) = some (.inl (cs 4, 4, .inr (.inr (.inr (.inr (gf)))))) ∧ (nz1.toInt = (L.length : Int)) ∧ (hx_FM cs V' fl L) ∧ (L = (sp_ex w v.toInt c9 te.toInt pe.toInt bk.2.2.2 2)) ∧ (L.length ≤ 2)))) ([.ref (mk), .ref (qt), .ref (fl), .int (v), .int (te), .int (pe)] : List Value).toArray s 0 0 (hp_F B)) (F0 m 16 ls []) from lp16 _ _ _ _ ls (r6) (0) ([]) (0) (nz) rfl hZ hP hc2 hc3 (fun x8 hne0 => rfl) hp0 hp1 (by omega) (by omega) (by omega) (by omega) (hx_FM.nil) (by rw [List.nil_append]; rfl) (hnf11) (lv_sub hl [0, 1, 2, 3, 4, 5, 6, 7] rfl)
  intro k9
  induction k9 using Nat.strongRecOn with
  | _ k9 ih16 =>
    intro V9 H9 locs9 ls x16 k16 L16 m16 fz16 hk16 hZ hP ho12 ho13 fr16 pk14 pk15 hv17 hv18 hv19 hv20 hFM16 hE16 hX16 hl
    have hb_x16 := hq_rng x16
    have hb_k16 := hq_rng k16
    have hb_fz16 := hq_rng fz16
    refine lv_iload hx hb dX6_addExcepts_16 (lv_at hl 0 rfl) ?_
    refine lv_iconst (v := 2) hx hb dX6_addExcepts_18 (by decide) ?_
    refine lv_icmp_ge (tgt := 91) hx hb dX6_addExcepts_19 (by decide) (fun c21 => ?_) (fun c21 => ?_)
    · have c21 : (2 : Int) ≤ (k16).toInt := hq_lei.mp c21
      have hEE : L16 = (sp_ex w v.toInt c9 te.toInt pe.toInt bk.2.2.2 2) := by rw [← hE16, show 2 - L16.length = 0 by omega, sp_ex_0, List.append_nil]
      exact hp_vret hx hb hr hlocks hZ ⟨rfl, hP, (fun x8 hne0 => fr16 x8 hne0), fz16, L16, ho12, ho13, by omega, hFM16, hEE, by omega⟩ dX6_addExcepts_91
    · have c21 : ¬ (2 : Int) ≤ (k16).toInt := fun h9 => c21 (hq_lei.mpr h9)
      refine lv_iload hx hb dX6_addExcepts_22 (lv_at hl 1 rfl) ?_
      refine lv_iconst (v := -1) hx hb dX6_addExcepts_24 (by decide) ?_
      refine lv_icmp_eq (tgt := 91) hx hb dX6_addExcepts_25 (by decide) (fun c22 => ?_) (fun c22 => ?_)
      · have c22 : (x16).toInt = (-1 : Int) := hq_eqi.mp c22
        have hEE : L16 = (sp_ex w v.toInt c9 te.toInt pe.toInt bk.2.2.2 2) := by rw [← hE16, (sp_ex_nf (bk.2.2.2.length - m16) m16 rfl).1 (by omega), List.append_nil]
        exact hp_vret hx hb hr hlocks hZ ⟨rfl, hP, (fun x8 hne0 => fr16 x8 hne0), fz16, L16, ho12, ho13, by omega, hFM16, hEE, by omega⟩ dX6_addExcepts_91
      · have c22 : ¬ (x16).toInt = (-1 : Int) := fun h9 => c22 (hq_eqi.mpr h9)
        have hxr := sp_nf_rg (k := 4) (v := v.toInt) (c := c9) (t := te.toInt) (p := pe.toInt) (bk.2.2.2.drop m16) ((m16 : Nat) : Int) (by omega)
        have hdl : (bk.2.2.2.drop m16).length = bk.2.2.2.length - m16 := List.length_drop
        have hxi : 0 ≤ x16.toInt ∧ x16.toInt < (bk.2.2.2.length : Int) := by rcases hxr with g9 | ⟨g8, g9, -⟩ <;> omega
        have hxn := Int.toNat_of_nonneg hxi.1
        obtain ⟨y9, hy9, hm9, hE9⟩ := (sp_ex_nf (w := w) (v := v.toInt) (c := c9) (t := te.toInt) (p := pe.toInt) (ls := bk.2.2.2) (k := 1 - L16.length) (bk.2.2.2.length - m16) m16 rfl).2 x16.toInt.toNat (by omega)
        refine lv_aload_n hx hb dX6_addExcepts_28 rfl (lv_at hl 4 rfl) ?_
        obtain ⟨it9, hit9⟩ : ∃ t, t = fl + 2 + 4 * (fz16 : Int32).toNatClampNeg := ⟨_, rfl⟩
        have hzit9 := (hq_nn (z := fz16) (by omega)).1
        have hyit9 := hFT it9 (fz16 : Int32).toNatClampNeg (by omega) hit9
        refine hp_callq (hp_runV (As := []) (rest := []) hx hb hml hown hts (x_flopen l D cs B G V9 n hP.1 (fl) (it9) (fz16) (gf) hy0 hy1 hyit9.1 hyit9.2.1 hyit9.2.2.1 hyit9.2.2.2 ho12 ho13  hgf hit9 (by omega)) hZ ho12 cv_X6_73 rfl rfl ⟨Nat.le_of_ble_eq_true rfl, Nat.le_of_ble_eq_true rfl⟩ rfl hl.1 rfl (Nat.le_of_ble_eq_true rfl) dX6_addExcepts_29 ⟨(Nat.le_of_ble_eq_true rfl), (Nat.le_of_ble_eq_true rfl)⟩) hZ (fun r26 V23 n24 _ _ hw25 hZ => ?_)
        obtain ⟨rfl, hq27, fr28, ho29, ho30, hp31⟩ := hw25
        have hP := hP.trans hq27 (fun _ h => Bool.noConfusion h)
        subst hp31
        refine W.eq (g2 := F0 m 32 ls [.ref (it9)]) rfl ?_
        refine lv_astore (lv' := [(8, .ref (it9)), (7, .int (k16)), (6, .int (x16)), (0, .ref (mk)), (1, .ref (qt)), (2, .ref (fl)), (3, .int (v)), (4, .int (te)), (5, .int (pe))]) hx hb dX6_addExcepts_32 hl (by decide) rfl (fun ls hl => ?_)
        refine lv_aload hx hb dX6_addExcepts_34 (lv_at hl 0 rfl) ?_
        refine lv_ifnull hx hb dX6_addExcepts_36 ?_
        refine lv_aload hx hb dX6_addExcepts_39 (lv_at hl 0 rfl) ?_
        refine hp_get (v := .ref (it9 + 1)) hx hb hts hown hZ ho29 fl_X6_86 rfl dX6_addExcepts_41 ?_
        refine lv_aload_n hx hb dX6_addExcepts_44 rfl (lv_at hl 4 rfl) ?_
        have fx32 : V23 (qt) = some (.inr (0, [.ref (qt + 1), .int (bc), .ref (qt + 14), .ref (qt + 75), .int (bv), .ref (qt + 76), .int (bl)])) := (fr28 (qt) (by omega) (by omega)).trans ((fr16 (qt) (by omega)).trans (hc0))
        refine hp_get (v := .ref (qt + 76)) hx hb hts hown hZ fx32 fl_X6_43 rfl dX6_addExcepts_45 ?_
        refine lv_iload hx hb dX6_addExcepts_48 (lv_at hl 2 rfl) ?_
        have fx33 : V23 (qt + 76) = some (.inl (cs 6, 60, .inr (.inr (.inr (.inr (g3)))))) := (fr28 (qt + 76) (by omega) (by omega)).trans ((fr16 (qt + 76) (by omega)).trans (hg3))
        have hixla9 : 0 ≤ (x16).toInt ∧ (x16).toInt < (bk.2.2.2.length : Int) := by omega
        obtain ⟨la9, hla9⟩ : ∃ ta, ta = qt + 77 + 5 * (x16).toNatClampNeg := ⟨_, rfl⟩
        have hiila9 : ((x16).toNatClampNeg : Int) = (x16).toInt := (hq_nn (by omega)).1.symm
        have hla91 : g3 (x16).toNatClampNeg = some la9 := by rw [hla9]; exact hr3 _ (by omega)
        obtain ⟨xla9, hxla9⟩ : ∃ t, bk.2.2.2[(x16).toNatClampNeg]? = some t := ⟨_, List.getElem?_eq_getElem (by omega)⟩
        have pk34 := pk14.keep (fun x7 (hx7 : qt + 77 ≤ x7 ∧ x7 < qt + 77 + 5 * bk.2.2.2.length) => fr28 x7 (by omega) (by omega))
        obtain ⟨ak, ao, at9, ap, ah, aht, apa, ala, ha1, ha2, ha3, ha4, ha5, ha6, ha7, hlt1, hlt2⟩ := (show hx_LN cs V23 la9 w xla9 by rw [hla9]; exact pk34.2 _ _ hxla9)
        obtain ⟨fz, ff, hfz1, hfz2, hfz3, hfz4, hfz5⟩ := hlt1.rp
        obtain ⟨sz, sf, hsz1, hsz2, hsz3, hsz4, hsz5⟩ := hlt2.rp
        have hfzl := hfz5.1
        have hszl := hsz5.1
        obtain ⟨hgl1, hgl2, hgl3⟩ := hgd.1 _ _ hxla9
        obtain ⟨hgm1, hgm2, hgm3, hgm4⟩ := hgd2 _ _ hxla9
        have hyl := hBT.2.2 (x16).toNatClampNeg (by omega)
        rw [← hla9] at hyl
        have hfrf := hq_rgB hP.1 hyl.2.2.1 hfz2
        have hfrs := hq_rgB hP.1 hyl.2.2.2.2 hsz2
        have hfela9 := (show sp_rp fz ff (sp_F w xla9) from hfz5).1
        have hsela9 := (show sp_rp sz sf (sp_S2 w xla9) from hsz5).1
        have hyx : y9 = xla9 := by have h9 : bk.2.2.2[x16.toInt.toNat]? = some xla9 := hxla9; exact Option.some.inj (hy9.symm.trans h9)
        refine hp_aald (v := .ref (la9)) hx hb hZ 6 fx33 rfl (hq_in (by omega) (by omega)) (by rw [hla91]; rfl) dX6_addExcepts_50 ?_
        refine hp_get (v := .ref (la9 + 1)) hx hb hts hown hZ ha1 fl_X6_107 rfl dX6_addExcepts_51 ?_
        obtain ⟨-, g35, eV37, hf36⟩ := hq_o1 hP.1 hyit9.2.2.1
        have hl38 : (0 : Int32).toInt = 0 := by decide
        refine hp_calli (hp_runV (As := [.ref (la9 + 1)]) (rest := []) hx hb hml hown hts (x_addA l D cs B G V23 n hP.1 (it9 + 1) (30) (la9 + 1) (8) (0) (g35) ([]) (fz) (ff) ((sp_F w xla9)) hyit9.2.1 hyit9.2.2.1 hyl.2.2.1 ho30 eV37 hfz1 hfz2  sp_rp.nil hfz5 (by omega) (by omega) (by decide) (by decide) (by omega)) hZ ho30 cv_X6_89 rfl rfl ⟨Nat.le_of_ble_eq_true rfl, Nat.le_of_ble_eq_true rfl⟩ rfl hl.1 rfl (Nat.le_of_ble_eq_true rfl) dX6_addExcepts_54 ⟨(Nat.le_of_ble_eq_true rfl), (Nat.le_of_ble_eq_true rfl)⟩) hZ (fun r42 V39 n40 _ _ hw41 hZ => ?_)
        obtain ⟨rfl, hq43, fr44, z45, u46, ho47, ho48, hp49, hp50⟩ := hw41
        have b51 := hq_rng z45
        have hP := hP.trans hq43 (fun _ h => Bool.noConfusion h)
        have hf52 := hq_rgB hP.1 hyit9.2.2.1 ho48
        have b53 := hq_rng r42
        have hap : sp_rp z45 u46 ([] ++ sp_F w xla9) := by rcases hp49 with g9 | g9; (· exact g9.2.2); (· exfalso; have g8 := g9.1; have h0 : (0 : Int32).toInt = 0 := rfl; omega)
        have b54 := hp50
        refine lv_pop hx hb dX6_addExcepts_57 rfl ?_
        refine lv_aload hx hb dX6_addExcepts_58 (lv_at hl 0 rfl) ?_
        refine lv_iload hx hb dX6_addExcepts_60 (lv_at hl 2 rfl) ?_
        obtain ⟨-, g55, eV56, hf57⟩ := hq_o2 hP.1 hyit9.2.2.2
        have fx58 : V39 (it9) = some (.inr (2, [.ref (it9 + 1), .ref (it9 + 3), .int (0)])) := (fr44 (it9) (hq_tne hyit9.1 hyit9.2.1 (by simp)) (hq_tne hyit9.1 hyit9.2.2.1 (by simp))).trans (ho29)
        have hl59 : (0 : Int32).toInt = 0 := by decide
        refine hp_callv (hp_runV (As := [.int (x16)]) (rest := []) hx hb hml hown hts (x_addLine l D cs B G V39 n hP.1 (it9) (x16) (0) (g55) hyit9.1 hyit9.2.1 hyit9.2.2.1 hyit9.2.2.2 fx58 eV56  (by omega)) hZ fx58 cv_X6_77 rfl rfl ⟨Nat.le_of_ble_eq_true rfl, Nat.le_of_ble_eq_true rfl⟩ rfl hl.1 rfl (Nat.le_of_ble_eq_true rfl) dX6_addExcepts_62 ⟨(Nat.le_of_ble_eq_true rfl), (Nat.le_of_ble_eq_true rfl)⟩) hZ (fun V60 n61 _ _ hw62 hZ => ?_)
        obtain ⟨rfl, hq64, fr65, z66, u67, ho68, ho69, hp70⟩ := hw62
        have b71 := hq_rng z66
        have hP := hP.trans hq64 (fun _ h => Bool.noConfusion h)
        have hf72 := hq_rg2 hP.1 hyit9.2.2.2 ho69
        refine lv_aload_n hx hb dX6_addExcepts_65 rfl (lv_at hl 5 rfl) ?_
        have fx73 : V60 (it9 + 1) = some (.inr (9, [.ref (it9 + 2), .int (z45)])) := (fr65 (it9 + 1) (hq_tne hyit9.2.1 hyit9.1 (by simp)) (hq_tne hyit9.2.1 hyit9.2.2.2 (by simp))).trans (ho47)
        have fx74 : V60 (it9 + 2) = some (.inl (cs 0, 30, .inl (u46))) := (fr65 (it9 + 2) (hq_tne hyit9.2.2.1 hyit9.1 (by simp)) (hq_tne hyit9.2.2.1 hyit9.2.2.2 (by simp))).trans (ho48)
        have hfw : hx_FW cs V60 it9 (sp_F w xla9) := ⟨_, _, _, ho68, fx73, fx74, by have h9 := hap; rw [List.nil_append] at h9; exact h9⟩
        have pk75 := hFM16.keep (fun x7 (hx7 : fl + 2 ≤ x7 ∧ x7 < fl + 2 + 4 * L16.length) => (fr65 x7 (by omega) (by omega)).trans ((fr44 x7 (by omega) (by omega)).trans (fr28 x7 (by omega) (by omega))))
        have hfm := pk75.snoc (a := it9) (by omega) hfw
        have hl1 : (L16 ++ [sp_F w xla9]).length = L16.length + 1 := by rw [List.length_append]; rfl
        have fx76 : V60 (fl) = some (.inr (3, [.ref (fl + 1), .int (fz16)])) := (fr65 (fl) (hq_tne hy0 hyit9.1 (by simp)) (hq_tne hy0 hyit9.2.2.2 (by simp))).trans ((fr44 (fl) (hq_tne hy0 hyit9.2.1 (by simp)) (hq_tne hy0 hyit9.2.2.1 (by simp))).trans ((fr28 (fl) (hq_tne hy0 hyit9.1 (by simp)) (hq_tne hy0 hyit9.2.1 (by simp))).trans (ho12)))
        have fx77 : V60 (fl + 1) = some (.inl (cs 4, 4, .inr (.inr (.inr (.inr (gf)))))) := (fr65 (fl + 1) (hq_tne hy1 hyit9.1 (by simp)) (hq_tne hy1 hyit9.2.2.2 (by simp))).trans ((fr44 (fl + 1) (hq_tne hy1 hyit9.2.1 (by simp)) (hq_tne hy1 hyit9.2.2.1 (by simp))).trans ((fr28 (fl + 1) (hq_tne hy1 hyit9.1 (by simp)) (hq_tne hy1 hyit9.2.1 (by simp))).trans (ho13)))
        refine hp_callv (hp_runV (As := []) (rest := []) hx hb hml hown hts (x_flkeep l D cs B G V60 n hP.1 (fl) (fz16) (gf) hy0 hy1 fx76 fx77  (by omega)) hZ fx76 cv_X6_97 rfl rfl ⟨Nat.le_of_ble_eq_true rfl, Nat.le_of_ble_eq_true rfl⟩ rfl hl.1 rfl (Nat.le_of_ble_eq_true rfl) dX6_addExcepts_66 ⟨(Nat.le_of_ble_eq_true rfl), (Nat.le_of_ble_eq_true rfl)⟩) hZ (fun V78 n79 _ _ hw80 hZ => ?_)
        obtain ⟨rfl, hq82, fr83, z84, ho85, hp86⟩ := hw80
        have b87 := hq_rng z84
        have hP := hP.trans hq82 (fun _ h => Bool.noConfusion h)
        refine lv_aload_n hx hb dX6_addExcepts_69 rfl (lv_at hl 4 rfl) ?_
        refine lv_iconst (v := 4) hx hb dX6_addExcepts_70 (by decide) ?_
        refine lv_iload hx hb dX6_addExcepts_71 (lv_at hl 2 rfl) ?_
        refine lv_iconst (v := 1) hx hb dX6_addExcepts_73 (by decide) ?_
        refine lv_iadd hx hb dX6_addExcepts_74 ?_
        refine lv_topi (fun y88 ey89 => ?_)
        obtain ⟨k90, hk91, b92, b93⟩ := hq_add (x16) (1)
        rw [← ey89] at hk91 b92 b93
        have hk91 : (y88).toInt = (x16).toInt + (1 : Int) + k90 * 4294967296 := hk91
        obtain rfl : k90 = 0 := by omega
        refine lv_iload_n hx hb dX6_addExcepts_75 rfl (lv_at hl 6 rfl) ?_
        refine lv_iload hx hb dX6_addExcepts_76 (lv_at hl 7 rfl) ?_
        refine lv_iload hx hb dX6_addExcepts_78 (lv_at hl 8 rfl) ?_
        have fx94 : V78 (qt) = some (.inr (0, [.ref (qt + 1), .int (bc), .ref (qt + 14), .ref (qt + 75), .int (bv), .ref (qt + 76), .int (bl)])) := (fr83 (qt) (by omega)).trans ((fr65 (qt) (by omega) (by omega)).trans ((fr44 (qt) (by omega) (by omega)).trans (fx32)))
        have fx95 : V78 (qt + 75) = some (.inl (cs 1, 30, .inl (vf))) := (fr83 (qt + 75) (by omega)).trans ((fr65 (qt + 75) (by omega) (by omega)).trans ((fr44 (qt + 75) (by omega) (by omega)).trans ((fr28 (qt + 75) (by omega) (by omega)).trans ((fr16 (qt + 75) (by omega)).trans (hc1)))))
        have hl96 : (4 : Int32).toInt = 4 := by decide
        have pk97 := pk34.keep (fun x7 (hx7 : qt + 77 ≤ x7 ∧ x7 < qt + 77 + 5 * bk.2.2.2.length) => (fr83 x7 (by omega)).trans ((fr65 x7 (by omega) (by omega)).trans (fr44 x7 (by omega) (by omega))))
        have pk98 := pk15.keep ((fr83 (qt + 1) (by omega)).trans ((fr65 (qt + 1) (by omega) (by omega)).trans ((fr44 (qt + 1) (by omega) (by omega)).trans (fr28 (qt + 1) (by omega) (by omega))))) ((fr83 (qt + 14) (by omega)).trans ((fr65 (qt + 14) (by omega) (by omega)).trans ((fr44 (qt + 14) (by omega) (by omega)).trans (fr28 (qt + 14) (by omega) (by omega))))) ((fr83 (qt + 76) (by omega)).trans ((fr65 (qt + 76) (by omega) (by omega)).trans ((fr44 (qt + 76) (by omega) (by omega)).trans (fr28 (qt + 76) (by omega) (by omega)))))
        refine hp_calli (hp_runV (As := [.int (4), .int (y88), .int (v), .int (te), .int (pe)]) (rest := []) hx hb hml hown hts (x_nf l D cs B G V78 n hP.1 (qt) (c9) (w) (bk) (4) (y88) (v) (te) (pe) (bc) (bv) (bl) (vf)  fx94 fx95 pk97 pk98 hbl (by omega) (by omega) hc9) hZ fx94 cv_X6_33 rfl rfl ⟨Nat.le_of_ble_eq_true rfl, Nat.le_of_ble_eq_true rfl⟩ rfl hl.1 rfl (Nat.le_of_ble_eq_true rfl) dX6_addExcepts_80 ⟨(Nat.le_of_ble_eq_true rfl), (Nat.le_of_ble_eq_true rfl)⟩) hZ (fun r102 V99 n100 _ _ hw101 hZ => ?_)
        obtain ⟨rfl, rfl, hp105⟩ := hw101
        have b106 := hq_rng r102
        have hnf107 := hp105
        have hn9 := (hq_nn (z := y88) (by omega)).1
        rw [show (4 : Int32).toInt = 4 by decide, show (y88).toNatClampNeg = x16.toInt.toNat + 1 by omega, show (y88).toInt = ((x16.toInt.toNat + 1 : Nat) : Int) by omega] at hnf107
        refine lv_istore (lv' := [(6, .int (r102)), (8, .ref (it9)), (7, .int (k16)), (0, .ref (mk)), (1, .ref (qt)), (2, .ref (fl)), (3, .int (v)), (4, .int (te)), (5, .int (pe))]) hx hb dX6_addExcepts_83 hl (by decide) rfl (fun ls hl => ?_)
        obtain ⟨y108, ey109⟩ : ∃ y : Int32, y = k16 + (1) := ⟨_, rfl⟩
        obtain ⟨k110, hk111, b112, b113⟩ := hq_add (k16) (1)
        rw [← ey109] at hk111 b112 b113
        have hk111 : (y108).toInt = (k16).toInt + (1) + k110 * 4294967296 := hk111
        obtain rfl : k110 = 0 := by omega
        refine lv_iinc (v := y108) (lv' := [(7, .int (y108)), (6, .int (r102)), (8, .ref (it9)), (0, .ref (mk)), (1, .ref (qt)), (2, .ref (fl)), (3, .int (v)), (4, .int (te)), (5, .int (pe))]) hx hb dX6_addExcepts_85 hl (k := 2) rfl (by rw [ey109]; rfl) (by decide) rfl (fun ls hl => ?_)
        refine lv_goto (tgt := 16) hx hb dX6_addExcepts_88 (by decide) ?_
        have fx114 : V78 (fl + 1) = some (.inl (cs 4, 4, .inr (.inr (.inr (.inr (gf)))))) := (fr83 (fl + 1) (hq_tne hy1 hy0 (by simp))).trans (fx77)
        have pk115 := hfm.keep (fun x7 (hx7 : fl + 2 ≤ x7 ∧ x7 < fl + 2 + 4 * (L16 ++ [sp_F w xla9]).length) => fr83 x7 (by omega))
        exact ih16 _ (hq_dn hk16 (by omega) (by omega)) _ _ _ ls (r102) (y108) ((L16 ++ [sp_F w xla9])) ((x16.toInt.toNat + 1)) (z84) rfl hZ hP ho85 fx114 (fun x8 hne0 => (fr83 x8 (by omega)).trans ((fr65 x8 (by omega) (by omega)).trans ((fr44 x8 (by omega) (by omega)).trans ((fr28 x8 (by omega) (by omega)).trans (fr16 x8 hne0))))) pk97 pk98 (by omega) (by omega) (by omega) (by omega) (pk115) (by rw [List.append_assoc, hl1, ← hE16, show 2 - (L16.length + 1) = 1 - L16.length by omega, show 2 - L16.length = (1 - L16.length) + 1 by omega, hE9, hyx]; rfl) (hnf107) (lv_sub hl [0, 1, 3, 4, 5, 6, 7, 8] rfl)

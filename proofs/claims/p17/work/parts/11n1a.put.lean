set_option maxHeartbeats 4000000 in
set_option maxRecDepth 100000 in
theorem x_isOther (l : Launch) (D : va_G) (cs : Nat → ClassId) (B : Nat) (G : hq_G) (V : hp_V) (n : Nat) (hI : hq_I cs G V) (kb : Nat) (qt : Nat) (bb : Nat) (w : sp_W) (bk : sp_B) (e_fd : Int32) (e_sz : Int32) (k : Int32) (k2 : Int32) (k3 : Int32) (bc : Int32) (bv : Int32) (bl : Int32) (hc0 : V (kb + 50) = some (.inr (1, [.ref (kb + 51), .ref (kb + 52), .int (e_fd), .ref (kb + 53), .ref (kb + 55), .ref (kb + 57), .ref (qt), .ref (kb), .ref (kb + 5), .int (e_sz), .ref (kb + 59), .ref (kb + 60), .ref (kb + 61)]))) (hc1 : V (qt) = some (.inr (0, [.ref (qt + 1), .int (bc), .ref (qt + 14), .ref (qt + 75), .int (bv), .ref (qt + 76), .int (bl)]))) (hp0 : hx_LL cs V (qt + 77) w bk.2.2.2) (hp1 : hx_BS cs V qt) (hbl : bl.toInt = (bk.2.2.2.length : Int)) (hgd : sp_good w bk) (hgd2 : sp_good2 bk) (hBT : hx_BT G qt bb) : hp_M l yX1_isOther cX1_isOther 4 (some .boolean) ({ frames := 1, cells := 0, slots := 0, locals := 21 }) D cs B V n [.ref (kb + 50), .int (k), .int (k2), .int (k3)] (hp_QI D cs B (fun r V' n' => n = n' ∧ V = V' ∧ ((r.toInt = 1 ∧ (0 ≤ k.toInt ∧ k.toInt < (bk.2.2.2.length : Int) ∧ sp_kd bk.2.2.2 k.toInt.toNat = k2.toInt ∧ ¬ k.toInt = k3.toInt)) ∨ (r.toInt = 0 ∧ ¬ (0 ≤ k.toInt ∧ k.toInt < (bk.2.2.2.length : Int) ∧ sp_kd bk.2.2.2 k.toInt.toNat = k2.toInt ∧ ¬ k.toInt = k3.toInt))))) 0 0 := by
  refine hp_walk (R0 := RX1) (by decide) rfl ?_ (Nat.le_of_ble_eq_true rfl)
  intro p e s m below meth c ls hx hb hr hts hown hlocks hin hml hZ hl
  have hP : hq_I cs G V := hI
  have hl : lv_has ls 4 [(0, .ref (kb + 50)), (1, .int (k)), (2, .int (k2)), (3, .int (k3))] := hl
  have hb_e_fd := hq_rng e_fd
  have hb_e_sz := hq_rng e_sz
  have hb_k := hq_rng k
  have hb_k2 := hq_rng k2
  have hb_k3 := hq_rng k3
  have hb_bc := hq_rng bc
  have hb_bv := hq_rng bv
  have hb_bl := hq_rng bl
  obtain ⟨⟨g1, hg1, hr1⟩, ⟨g2, hg2, hr2⟩, ⟨g3, hg3, hr3⟩⟩ := id hp1
  have hll9 := hp0.1
  refine lv_iload_n hx hb dX1_isOther_0 rfl (lv_at hl 1 rfl) ?_
  refine lv_if_lt (tgt := 40) hx hb dX1_isOther_1 (by decide) (fun c1 => ?_) (fun c1 => ?_)
  · have c1 : (k).toInt < (0 : Int) := hq_lti.mp c1
    refine lv_iconst (v := 0) hx hb dX1_isOther_40 (by decide) ?_
    have hl2 : (0 : Int32).toInt = 0 := by decide
    exact hp_zret hx hb hr rfl hlocks hZ ⟨rfl, rfl, (by omega)⟩ dX1_isOther_41
  · have c1 : ¬ (k).toInt < (0 : Int) := fun h9 => c1 (hq_lti.mpr h9)
    refine lv_iload_n hx hb dX1_isOther_4 rfl (lv_at hl 1 rfl) ?_
    refine lv_aload_n hx hb dX1_isOther_5 rfl (lv_at hl 0 rfl) ?_
    refine hp_get (v := .ref (qt)) hx hb hts hown hZ hc0 fl_X1_50 rfl dX1_isOther_6 ?_
    refine hp_get (v := .int (bl)) hx hb hts hown hZ hc1 fl_X1_80 rfl dX1_isOther_9 ?_
    refine lv_icmp_ge (tgt := 40) hx hb dX1_isOther_12 (by decide) (fun c3 => ?_) (fun c3 => ?_)
    · have c3 : (bl).toInt ≤ (k).toInt := hq_lei.mp c3
      refine lv_iconst (v := 0) hx hb dX1_isOther_40 (by decide) ?_
      have hl4 : (0 : Int32).toInt = 0 := by decide
      exact hp_zret hx hb hr rfl hlocks hZ ⟨rfl, rfl, (by omega)⟩ dX1_isOther_41
    · have c3 : ¬ (bl).toInt ≤ (k).toInt := fun h9 => c3 (hq_lei.mpr h9)
      refine lv_aload_n hx hb dX1_isOther_15 rfl (lv_at hl 0 rfl) ?_
      refine hp_get (v := .ref (qt)) hx hb hts hown hZ hc0 fl_X1_50 rfl dX1_isOther_16 ?_
      refine hp_get (v := .ref (qt + 76)) hx hb hts hown hZ hc1 fl_X1_124 rfl dX1_isOther_19 ?_
      refine lv_iload_n hx hb dX1_isOther_22 rfl (lv_at hl 1 rfl) ?_
      have hixla9 : 0 ≤ (k).toInt ∧ (k).toInt < (bk.2.2.2.length : Int) := by omega
      obtain ⟨la9, hla9⟩ : ∃ ta, ta = qt + 77 + 5 * (k).toNatClampNeg := ⟨_, rfl⟩
      have hiila9 : ((k).toNatClampNeg : Int) = (k).toInt := (hq_nn (by omega)).1.symm
      have hla91 : g3 (k).toNatClampNeg = some la9 := by rw [hla9]; exact hr3 _ (by omega)
      obtain ⟨xla9, hxla9⟩ : ∃ t, bk.2.2.2[(k).toNatClampNeg]? = some t := ⟨_, List.getElem?_eq_getElem (by omega)⟩
      obtain ⟨ak, ao, at9, ap, ah, aht, apa, ala, ha1, ha2, ha3, ha4, ha5, ha6, ha7, hlt1, hlt2⟩ := (show hx_LN cs V la9 w xla9 by rw [hla9]; exact hp0.2 _ _ hxla9)
      obtain ⟨fz, ff, hfz1, hfz2, hfz3, hfz4, hfz5⟩ := hlt1.rp
      obtain ⟨sz, sf, hsz1, hsz2, hsz3, hsz4, hsz5⟩ := hlt2.rp
      have hfzl := hfz5.1
      have hszl := hsz5.1
      obtain ⟨hgl1, hgl2, hgl3⟩ := hgd.1 _ _ hxla9
      obtain ⟨hgm1, hgm2, hgm3, hgm4⟩ := hgd2 _ _ hxla9
      have hyl := hBT.2.2 (k).toNatClampNeg (by omega)
      rw [← hla9] at hyl
      have hfrf := hq_rgB hP hyl.2.2.1 hfz2
      have hfrs := hq_rgB hP hyl.2.2.2.2 hsz2
      have hfela9 := (show sp_rp fz ff (sp_F w xla9) from hfz5).1
      have hsela9 := (show sp_rp sz sf (sp_S2 w xla9) from hsz5).1
      have hkd : sp_kd bk.2.2.2 k.toInt.toNat = xla9.1 := sp_kd_i hxla9
      refine hp_aald (v := .ref (la9)) hx hb hZ 6 hg3 rfl (hq_in (by omega) (by omega)) (by rw [hla91]; rfl) dX1_isOther_23 ?_
      refine hp_get (v := .int (ak)) hx hb hts hown hZ ha1 fl_X1_137 rfl dX1_isOther_24 ?_
      refine lv_iload_n hx hb dX1_isOther_27 rfl (lv_at hl 2 rfl) ?_
      refine lv_icmp_ne (tgt := 40) hx hb dX1_isOther_28 (by decide) (fun c5 => ?_) (fun c5 => ?_)
      · have c5 : ¬ (ak).toInt = (k2).toInt := fun h9 => c5 (hq_eqi.mpr h9)
        refine lv_iconst (v := 0) hx hb dX1_isOther_40 (by decide) ?_
        have hl6 : (0 : Int32).toInt = 0 := by decide
        exact hp_zret hx hb hr rfl hlocks hZ ⟨rfl, rfl, (by omega)⟩ dX1_isOther_41
      · have c5 : (ak).toInt = (k2).toInt := hq_eqi.mp c5
        refine lv_iload_n hx hb dX1_isOther_31 rfl (lv_at hl 1 rfl) ?_
        refine lv_iload_n hx hb dX1_isOther_32 rfl (lv_at hl 3 rfl) ?_
        refine lv_icmp_eq (tgt := 40) hx hb dX1_isOther_33 (by decide) (fun c7 => ?_) (fun c7 => ?_)
        · have c7 : (k).toInt = (k3).toInt := hq_eqi.mp c7
          refine lv_iconst (v := 0) hx hb dX1_isOther_40 (by decide) ?_
          have hl8 : (0 : Int32).toInt = 0 := by decide
          exact hp_zret hx hb hr rfl hlocks hZ ⟨rfl, rfl, (by omega)⟩ dX1_isOther_41
        · have c7 : ¬ (k).toInt = (k3).toInt := fun h9 => c7 (hq_eqi.mpr h9)
          refine lv_iconst (v := 1) hx hb dX1_isOther_36 (by decide) ?_
          refine lv_goto (tgt := 41) hx hb dX1_isOther_37 (by decide) ?_
          have hl9 : (1 : Int32).toInt = 1 := by decide
          exact hp_zret hx hb hr rfl hlocks hZ ⟨rfl, rfl, (by omega)⟩ dX1_isOther_41

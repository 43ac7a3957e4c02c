set_option maxHeartbeats 4000000 in
set_option maxRecDepth 100000 in
theorem x_eps (l : Launch) (D : va_G) (cs : Nat → ClassId) (B : Nat) (G : hq_G) (V : hp_V) (n : Nat) (hI : hq_I cs G V) (kb : Nat) (qt : Nat) (bb : Nat) (t9 : Nat) (w : sp_W) (bk : sp_B) (e_fd : Int32) (e_sz : Int32) (v : Int32) (k : Int32) (bc : Int32) (bv : Int32) (bl : Int32) (tz0 : Int32) (tz1 : Int32) (tz2 : Int32) (tz3 : Int32) (tz4 : Int32) (tz5 : Int32) (tz6 : Int32) (sz : Int32) (sf_ : Nat → Int32) (hy0 : G (kb + 50) = some (14, 0, 0, 0)) (hy1 : G (kb + 52) = some (13, 0, 0, 0)) (hy2 : G (kb + 53) = some (0, 30, 0, 0)) (hy3 : G (kb + 54) = some (1, 30, 0, 0)) (hc0 : V (kb + 50) = some (.inr (1, [.ref (kb + 51), .ref (kb + 52), .int (e_fd), .ref (kb + 53), .ref (kb + 55), .ref (kb + 57), .ref (qt), .ref (kb), .ref (kb + 5), .int (e_sz), .ref (kb + 59), .ref (kb + 60), .ref (kb + 61)]))) (hc1 : V (kb + 52) = some (.inr (10, [.int (tz0), .int (tz1), .int (tz2), .int (tz3), .int (tz4), .int (tz5), .int (tz6)]))) (hc2 : V (qt) = some (.inr (0, [.ref (qt + 1), .int (bc), .ref (qt + 14), .ref (qt + 75), .int (bv), .ref (qt + 76), .int (bl)]))) (hc3 : V (kb + 53) = some (.inr (9, [.ref (kb + 53 + 1), .int (sz)]))) (hc4 : V (kb + 54) = some (.inl (cs 0, 30, .inl (sf_)))) (hp0 : hx_LL cs V (qt + 77) w bk.2.2.2) (hp1 : hx_NL cs V (qt + 15) 30 w bk.2.1) (hp2 : hx_BS cs V qt) (hbl : bl.toInt = (bk.2.2.2.length : Int)) (hgd : sp_good w bk) (hgd2 : sp_good2 bk) (hBT : hx_BT G qt bb) (ht9 : bk.2.1[v.toNatClampNeg]? = some t9) (hv : 0 ≤ v.toInt) (hownr : tz1.toInt = -1 ∨ (0 ≤ tz1.toInt ∧ tz1.toInt < (bk.2.2.2.length : Int))) (hown0 : ∀ x, 0 ≤ tz1.toInt → bk.2.2.2[tz1.toInt.toNat]? = some x → x.1 = 0) (how2 : -1 ≤ tz2.toInt ∧ tz2.toInt ≤ 59) (hzz : 0 ≤ sz.toInt ∧ sz.toInt ≤ 30) (hne : kb + 61 < qt) (hk2 : -2 ≤ k.toInt) : hp_M l yX1_putStem cX1_putStem 3 (some .boolean) ({ frames := 4, cells := 0, slots := 0, locals := 91 }) D cs B V n [.ref (kb + 50), .int (v), .int (k)] (hp_QI D cs B (fun r V' n' => n = n' ∧ hq_P cs G (fun _ => true) V V' ∧ (∀ x, x ≠ kb + 52 → x ≠ kb + 53 → x ≠ kb + 54 → V' x = V x) ∧ (∃ sz1 : Int32, ∃ sf1 : Nat → Int32, V' (kb + 52) = some (.inr (10, [.int (tz0), .int (tz1), .int (tz2), .int (k), .int (tz4), .int (tz5), .int (tz6)])) ∧ V' (kb + 53) = some (.inr (9, [.ref (kb + 53 + 1), .int (sz1)])) ∧ V' (kb + 54) = some (.inl (cs 0, 30, .inl (sf1))) ∧ ((r.toInt = 1 ∧ sp_vs bk.2.2.2.length tz1.toInt k.toInt ∧ (0 ≤ k.toInt → sp_kd bk.2.2.2 k.toInt.toNat = 0 ∧ (fun i : Nat => ∀ x, bk.2.2.2[i]? = some x → ¬ sp_lp (sp_F w x) (sp_nm w t9) = -1) k.toInt.toNat) ∧ sp_rp sz1 sf1 (sp_stm w bk (sp_nm w t9) (sp_ys tz1.toInt k.toInt))) ∨ (r.toInt = 0 ∧ ((k.toInt = -1 ∧ tz1.toInt = -1) ∨ (0 ≤ k.toInt ∧ ¬ (k.toInt < (bk.2.2.2.length : Int) ∧ sp_kd bk.2.2.2 k.toInt.toNat = 0 ∧ ¬ k.toInt = tz1.toInt ∧ (fun i : Nat => ∀ x, bk.2.2.2[i]? = some x → ¬ sp_lp (sp_F w x) (sp_nm w t9) = -1) k.toInt.toNat))))) ∧ (0 ≤ sz1.toInt ∧ sz1.toInt ≤ 30)))) 0 0 := by
  refine hp_walk (R0 := RX1) (by decide) rfl ?_ (Nat.le_of_ble_eq_true rfl)
  intro p e s m below meth c ls hx hb hr hts hown hlocks hin hml hZ hl
  have hP : hq_P cs G (fun _ => true) V V := hq_P.rf hI
  have hl : lv_has ls 3 [(0, .ref (kb + 50)), (1, .int (v)), (2, .int (k))] := hl
  have hb_e_fd := hq_rng e_fd
  have hb_e_sz := hq_rng e_sz
  have hb_v := hq_rng v
  have hb_k := hq_rng k
  have hb_bc := hq_rng bc
  have hb_bv := hq_rng bv
  have hb_bl := hq_rng bl
  have hb_tz0 := hq_rng tz0
  have hb_tz1 := hq_rng tz1
  have hb_tz2 := hq_rng tz2
  have hb_tz3 := hq_rng tz3
  have hb_tz4 := hq_rng tz4
  have hb_tz5 := hq_rng tz5
  have hb_tz6 := hq_rng tz6
  have hb_sz := hq_rng sz
  have hf_4 := hq_rgB hI hy3 hc4
  have hll9 := hp0.1
  refine lv_aload_n hx hb dX1_putStem_0 rfl (lv_at hl 0 rfl) ?_
  refine hp_get (v := .ref (kb + 52)) hx hb hts hown hZ hc0 fl_X1_18 rfl dX1_putStem_1 ?_
  refine lv_iload_n hx hb dX1_putStem_4 rfl (lv_at hl 2 rfl) ?_
  refine hp_put hx hb hts hown hZ hc1 fp_X1_101 rfl rfl (Nat.le_of_ble_eq_true rfl) dX1_putStem_5 (fun V1 _ _ e2 o3 hZ => ?_)
  have e2 : V1 (kb + 52) = some (.inr (10, [.int (tz0), .int (tz1), .int (tz2), .int (k), .int (tz4), .int (tz5), .int (tz6)])) := e2
  have hP := hP.put hy1 e2 o3 (hq_c13 (show -1 ≤ (tz1).toInt ∧ (tz1).toInt ≤ 59 by omega) (show -1 ≤ (tz2).toInt ∧ (tz2).toInt ≤ 59 by omega)) rfl
  refine lv_iload_n hx hb dX1_putStem_8 rfl (lv_at hl 2 rfl) ?_
  refine lv_bipush (v := -2) hx hb dX1_putStem_9 (by decide) ?_
  refine lv_icmp_ne (tgt := 36) hx hb dX1_putStem_11 (by decide) (fun c4 => ?_) (fun c4 => ?_)
  · have c4 : ¬ (k).toInt = (-2 : Int) := fun h9 => c4 (hq_eqi.mpr h9)
    refine lv_iload_n hx hb dX1_putStem_36 rfl (lv_at hl 2 rfl) ?_
    refine lv_iconst (v := -1) hx hb dX1_putStem_37 (by decide) ?_
    refine lv_icmp_ne (tgt := 72) hx hb dX1_putStem_38 (by decide) (fun c5 => ?_) (fun c5 => ?_)
    · have c5 : ¬ (k).toInt = (-1 : Int) := fun h9 => c5 (hq_eqi.mpr h9)
      refine lv_aload_n hx hb dX1_putStem_72 rfl (lv_at hl 0 rfl) ?_
      refine lv_iload_n hx hb dX1_putStem_73 rfl (lv_at hl 2 rfl) ?_
      refine lv_iconst (v := 0) hx hb dX1_putStem_74 (by decide) ?_
      refine lv_aload_n hx hb dX1_putStem_75 rfl (lv_at hl 0 rfl) ?_
      have fx6 : V1 (kb + 50) = some (.inr (1, [.ref (kb + 51), .ref (kb + 52), .int (e_fd), .ref (kb + 53), .ref (kb + 55), .ref (kb + 57), .ref (qt), .ref (kb), .ref (kb + 5), .int (e_sz), .ref (kb + 59), .ref (kb + 60), .ref (kb + 61)])) := (o3 (kb + 50) (hq_tne hy0 hy1 (by simp))).trans (hc0)
      refine hp_get (v := .ref (kb + 52)) hx hb hts hown hZ fx6 fl_X1_18 rfl dX1_putStem_76 ?_
      refine hp_get (v := .int (tz1)) hx hb hts hown hZ e2 fl_X1_70 rfl dX1_putStem_79 ?_
      have fx7 : V1 (qt) = some (.inr (0, [.ref (qt + 1), .int (bc), .ref (qt + 14), .ref (qt + 75), .int (bv), .ref (qt + 76), .int (bl)])) := (o3 (qt) (by omega)).trans (hc2)
      have hl8 : (0 : Int32).toInt = 0 := by decide
      have pk9 := hp0.keep (fun x7 (hx7 : qt + 77 ≤ x7 ∧ x7 < qt + 77 + 5 * bk.2.2.2.length) => o3 x7 (by omega))
      have pk10 := hp2.keep (o3 (qt + 1) (by omega)) (o3 (qt + 14) (by omega)) (o3 (qt + 76) (by omega))
      refine hp_calli (hp_runV (As := [.int (k), .int (0), .int (tz1)]) (rest := []) hx hb hml hown hts (x_isOther l D cs B G V1 n hP.1 (kb) (qt) (bb) (w) (bk) (e_fd) (e_sz) (k) (0) (tz1) (bc) (bv) (bl)  fx6 fx7 pk9 pk10 hbl hgd hgd2 hBT) hZ fx6 cv_X1_107 rfl rfl ⟨Nat.le_of_ble_eq_true rfl, Nat.le_of_ble_eq_true rfl⟩ rfl hl.1 rfl (Nat.le_of_ble_eq_true rfl) dX1_putStem_82 ⟨(Nat.le_of_ble_eq_true rfl), (Nat.le_of_ble_eq_true rfl)⟩) hZ (fun r14 V11 n12 _ _ hw13 hZ => ?_)
      obtain ⟨rfl, rfl, hp17⟩ := hw13
      have b18 := hq_rng r14
      have hio := hp17
      rw [show (0 : Int32).toInt = 0 from rfl] at hio
      refine lv_if_eq (tgt := 108) hx hb dX1_putStem_85 (by decide) (fun c19 => ?_) (fun c19 => ?_)
      · have c19 : (r14).toInt = (0 : Int) := hq_eqi.mp c19
        have hno : ¬ (0 ≤ k.toInt ∧ k.toInt < (bk.2.2.2.length : Int) ∧ sp_kd bk.2.2.2 k.toInt.toNat = 0 ∧ ¬ k.toInt = tz1.toInt) := by rcases hio with g9 | g9; (· omega); (· exact g9.2)
        refine lv_iconst (v := 0) hx hb dX1_putStem_108 (by decide) ?_
        have hl20 : (0 : Int32).toInt = 0 := by decide
        have fx21 : V1 (kb + 53) = some (.inr (9, [.ref (kb + 53 + 1), .int (sz)])) := (o3 (kb + 53) (hq_tne hy2 hy1 (by simp))).trans (hc3)
        have fx22 : V1 (kb + 54) = some (.inl (cs 0, 30, .inl (sf_))) := (o3 (kb + 54) (hq_tne hy3 hy1 (by simp))).trans (hc4)
        exact hp_zret hx hb hr rfl hlocks hZ ⟨rfl, hP, (fun x8 hne0 hne1 hne2 => o3 x8 hne0), sz, sf_, e2, fx21, fx22, Or.inr ⟨by omega, Or.inr ⟨by omega, fun g9 => hno ⟨by omega, g9.1, g9.2.1, g9.2.2.1⟩⟩⟩, by omega⟩ dX1_putStem_109
      · have c19 : ¬ (r14).toInt = (0 : Int) := fun h9 => c19 (hq_eqi.mpr h9)
        have hyo : (0 ≤ k.toInt ∧ k.toInt < (bk.2.2.2.length : Int) ∧ sp_kd bk.2.2.2 k.toInt.toNat = 0 ∧ ¬ k.toInt = tz1.toInt) := by rcases hio with g9 | g9; (· exact g9.2); (· omega)
        refine lv_aload_n hx hb dX1_putStem_88 rfl (lv_at hl 0 rfl) ?_
        refine hp_get (v := .ref (qt)) hx hb hts hown hZ fx6 fl_X1_50 rfl dX1_putStem_89 ?_
        refine lv_iload_n hx hb dX1_putStem_92 rfl (lv_at hl 1 rfl) ?_
        refine lv_iload_n hx hb dX1_putStem_93 rfl (lv_at hl 2 rfl) ?_
        refine lv_aload_n hx hb dX1_putStem_94 rfl (lv_at hl 0 rfl) ?_
        refine hp_get (v := .ref (kb + 53)) hx hb hts hown hZ fx6 fl_X1_26 rfl dX1_putStem_95 ?_
        have fx23 : V1 (kb + 53) = some (.inr (9, [.ref (kb + 53 + 1), .int (sz)])) := (o3 (kb + 53) (hq_tne hy2 hy1 (by simp))).trans (hc3)
        have fx24 : V1 (kb + 54) = some (.inl (cs 0, 30, .inl (sf_))) := (o3 (kb + 54) (hq_tne hy3 hy1 (by simp))).trans (hc4)
        have pk25 := hp1.keep (fun x7 (hx7 : qt + 15 ≤ x7 ∧ x7 < qt + 15 + 2 * bk.2.1.length) => o3 x7 (by omega))
        refine hp_calli (hp_runV (As := [.int (v), .int (k), .ref (kb + 53)]) (rest := []) hx hb hml hown hts (x_ps l D cs B G V1 n hP.1 (qt) (kb + 53) (bb) (t9) (w) (bk) (v) (k) (bc) (bv) (bl) (sz) (sf_) hy2 hy3 fx7 fx23 fx24 pk9 pk25 pk10 hbl hgd hgd2 hBT ht9 hv (Or.inr ⟨by omega, by omega⟩) (fun x9 h0 hx9 => by have h9 := hyo.2.2.1; rw [sp_kd_i hx9] at h9; exact h9) (by omega) (by omega)) hZ fx7 cv_X1_104 rfl rfl ⟨Nat.le_of_ble_eq_true rfl, Nat.le_of_ble_eq_true rfl⟩ rfl hl.1 rfl (Nat.le_of_ble_eq_true rfl) dX1_putStem_98 ⟨(Nat.le_of_ble_eq_true rfl), (Nat.le_of_ble_eq_true rfl)⟩) hZ (fun r29 V26 n27 _ _ hw28 hZ => ?_)
        obtain ⟨rfl, hq30, fr31, z32, u33, ho34, ho35, hp36, hp37, hp38⟩ := hw28
        have b39 := hq_rng z32
        have hP := hP.trans hq30 (fun _ h => Bool.noConfusion h)
        have hf40 := hq_rgB hP.1 hy3 ho35
        have b41 := hq_rng r29
        have b42 := hp38
        refine lv_if_eq (tgt := 108) hx hb dX1_putStem_101 (by decide) (fun c43 => ?_) (fun c43 => ?_)
        · have c43 : (r29).toInt = (0 : Int) := hq_eqi.mp c43
          refine lv_iconst (v := 0) hx hb dX1_putStem_108 (by decide) ?_
          have hl44 : (0 : Int32).toInt = 0 := by decide
          have fx45 : V26 (kb + 52) = some (.inr (10, [.int (tz0), .int (tz1), .int (tz2), .int (k), .int (tz4), .int (tz5), .int (tz6)])) := (fr31 (kb + 52) (hq_tne hy1 hy2 (by simp)) (hq_tne hy1 hy3 (by simp))).trans (e2)
          exact hp_zret hx hb hr rfl hlocks hZ ⟨rfl, hP, (fun x8 hne0 hne1 hne2 => (fr31 x8 hne1 hne2).trans (o3 x8 hne0)), z32, u33, fx45, ho34, ho35, Or.inr ⟨by omega, Or.inr ⟨by omega, fun g9 => by have h9 := hp37.mpr ⟨by omega, g9.2.2.2⟩; omega⟩⟩, by omega⟩ dX1_putStem_109
        · have c43 : ¬ (r29).toInt = (0 : Int) := fun h9 => c43 (hq_eqi.mpr h9)
          refine lv_iconst (v := 1) hx hb dX1_putStem_104 (by decide) ?_
          refine lv_goto (tgt := 109) hx hb dX1_putStem_105 (by decide) ?_
          have hl46 : (1 : Int32).toInt = 1 := by decide
          have fx47 : V26 (kb + 52) = some (.inr (10, [.int (tz0), .int (tz1), .int (tz2), .int (k), .int (tz4), .int (tz5), .int (tz6)])) := (fr31 (kb + 52) (hq_tne hy1 hy2 (by simp)) (hq_tne hy1 hy3 (by simp))).trans (e2)
          exact hp_zret hx hb hr rfl hlocks hZ ⟨rfl, hP, (fun x8 hne0 hne1 hne2 => (fr31 x8 hne1 hne2).trans (o3 x8 hne0)), z32, u33, fx47, ho34, ho35, Or.inl ⟨by omega, Or.inr (Or.inr ⟨hyo.1, hyo.2.1, hyo.2.2.2⟩), fun h9 => ⟨hyo.2.2.1, (hp37.mp (by omega)).2⟩, (by show sp_rp z32 u33 (sp_stm w bk (sp_nm w t9) (sp_ys tz1.toInt k.toInt)); rw [show sp_ys tz1.toInt k.toInt = k.toInt from if_neg (by omega)]; exact hp36)⟩, by omega⟩ dX1_putStem_109
    · have c5 : (k).toInt = (-1 : Int) := hq_eqi.mp c5
      refine lv_aload_n hx hb dX1_putStem_41 rfl (lv_at hl 0 rfl) ?_
      have fx48 : V1 (kb + 50) = some (.inr (1, [.ref (kb + 51), .ref (kb + 52), .int (e_fd), .ref (kb + 53), .ref (kb + 55), .ref (kb + 57), .ref (qt), .ref (kb), .ref (kb + 5), .int (e_sz), .ref (kb + 59), .ref (kb + 60), .ref (kb + 61)])) := (o3 (kb + 50) (hq_tne hy0 hy1 (by simp))).trans (hc0)
      refine hp_get (v := .ref (qt)) hx hb hts hown hZ fx48 fl_X1_50 rfl dX1_putStem_42 ?_
      refine lv_iload_n hx hb dX1_putStem_45 rfl (lv_at hl 1 rfl) ?_
      refine lv_iconst (v := -1) hx hb dX1_putStem_46 (by decide) ?_
      refine lv_aload_n hx hb dX1_putStem_47 rfl (lv_at hl 0 rfl) ?_
      refine hp_get (v := .ref (kb + 53)) hx hb hts hown hZ fx48 fl_X1_26 rfl dX1_putStem_48 ?_
      have fx49 : V1 (qt) = some (.inr (0, [.ref (qt + 1), .int (bc), .ref (qt + 14), .ref (qt + 75), .int (bv), .ref (qt + 76), .int (bl)])) := (o3 (qt) (by omega)).trans (hc2)
      have fx50 : V1 (kb + 53) = some (.inr (9, [.ref (kb + 53 + 1), .int (sz)])) := (o3 (kb + 53) (hq_tne hy2 hy1 (by simp))).trans (hc3)
      have fx51 : V1 (kb + 54) = some (.inl (cs 0, 30, .inl (sf_))) := (o3 (kb + 54) (hq_tne hy3 hy1 (by simp))).trans (hc4)
      have hl52 : (-1 : Int32).toInt = -1 := by decide
      have pk53 := hp0.keep (fun x7 (hx7 : qt + 77 ≤ x7 ∧ x7 < qt + 77 + 5 * bk.2.2.2.length) => o3 x7 (by omega))
      have pk54 := hp1.keep (fun x7 (hx7 : qt + 15 ≤ x7 ∧ x7 < qt + 15 + 2 * bk.2.1.length) => o3 x7 (by omega))
      have pk55 := hp2.keep (o3 (qt + 1) (by omega)) (o3 (qt + 14) (by omega)) (o3 (qt + 76) (by omega))
      refine hp_calli (hp_runV (As := [.int (v), .int (-1), .ref (kb + 53)]) (rest := []) hx hb hml hown hts (x_ps l D cs B G V1 n hP.1 (qt) (kb + 53) (bb) (t9) (w) (bk) (v) (-1) (bc) (bv) (bl) (sz) (sf_) hy2 hy3 fx49 fx50 fx51 pk53 pk54 pk55 hbl hgd hgd2 hBT ht9 hv (Or.inl (by decide)) (fun x9 h0 => absurd h0 (by decide)) (by omega) (by omega)) hZ fx49 cv_X1_104 rfl rfl ⟨Nat.le_of_ble_eq_true rfl, Nat.le_of_ble_eq_true rfl⟩ rfl hl.1 rfl (Nat.le_of_ble_eq_true rfl) dX1_putStem_51 ⟨(Nat.le_of_ble_eq_true rfl), (Nat.le_of_ble_eq_true rfl)⟩) hZ (fun r59 V56 n57 _ _ hw58 hZ => ?_)
      obtain ⟨rfl, hq60, fr61, z62, u63, ho64, ho65, hp66, hp67, hp68⟩ := hw58
      have b69 := hq_rng z62
      have hP := hP.trans hq60 (fun _ h => Bool.noConfusion h)
      have hf70 := hq_rgB hP.1 hy3 ho65
      have b71 := hq_rng r59
      have b72 := hp68
      refine lv_pop hx hb dX1_putStem_54 rfl ?_
      refine lv_aload_n hx hb dX1_putStem_55 rfl (lv_at hl 0 rfl) ?_
      have fx73 : V56 (kb + 50) = some (.inr (1, [.ref (kb + 51), .ref (kb + 52), .int (e_fd), .ref (kb + 53), .ref (kb + 55), .ref (kb + 57), .ref (qt), .ref (kb), .ref (kb + 5), .int (e_sz), .ref (kb + 59), .ref (kb + 60), .ref (kb + 61)])) := (fr61 (kb + 50) (hq_tne hy0 hy2 (by simp)) (hq_tne hy0 hy3 (by simp))).trans (fx48)
      refine hp_get (v := .ref (kb + 52)) hx hb hts hown hZ fx73 fl_X1_18 rfl dX1_putStem_56 ?_
      have fx74 : V56 (kb + 52) = some (.inr (10, [.int (tz0), .int (tz1), .int (tz2), .int (k), .int (tz4), .int (tz5), .int (tz6)])) := (fr61 (kb + 52) (hq_tne hy1 hy2 (by simp)) (hq_tne hy1 hy3 (by simp))).trans (e2)
      refine hp_get (v := .int (tz1)) hx hb hts hown hZ fx74 fl_X1_70 rfl dX1_putStem_59 ?_
      refine lv_iconst (v := -1) hx hb dX1_putStem_62 (by decide) ?_
      refine lv_icmp_eq (tgt := 70) hx hb dX1_putStem_63 (by decide) (fun c75 => ?_) (fun c75 => ?_)
      · have c75 : (tz1).toInt = (-1 : Int) := hq_eqi.mp c75
        refine lv_iconst (v := 0) hx hb dX1_putStem_70 (by decide) ?_
        have hl76 : (0 : Int32).toInt = 0 := by decide
        exact hp_zret hx hb hr rfl hlocks hZ ⟨rfl, hP, (fun x8 hne0 hne1 hne2 => (fr61 x8 hne1 hne2).trans (o3 x8 hne0)), z62, u63, fx74, ho64, ho65, Or.inr ⟨by omega, Or.inl ⟨by omega, by omega⟩⟩, by omega⟩ dX1_putStem_71
      · have c75 : ¬ (tz1).toInt = (-1 : Int) := fun h9 => c75 (hq_eqi.mpr h9)
        refine lv_iconst (v := 1) hx hb dX1_putStem_66 (by decide) ?_
        refine lv_goto (tgt := 71) hx hb dX1_putStem_67 (by decide) ?_
        have hl77 : (1 : Int32).toInt = 1 := by decide
        exact hp_zret hx hb hr rfl hlocks hZ ⟨rfl, hP, (fun x8 hne0 hne1 hne2 => (fr61 x8 hne1 hne2).trans (o3 x8 hne0)), z62, u63, fx74, ho64, ho65, Or.inl ⟨by omega, Or.inr (Or.inl ⟨by omega, by omega⟩), fun h9 => by omega, (by show sp_rp z62 u63 (sp_stm w bk (sp_nm w t9) (sp_ys tz1.toInt k.toInt)); rw [show sp_ys tz1.toInt k.toInt = (-1 : Int32).toInt from (if_neg (by omega)).trans (by rw [show (-1 : Int32).toInt = -1 by decide]; omega)]; exact hp66)⟩, by omega⟩ dX1_putStem_71
  · have c4 : (k).toInt = (-2 : Int) := hq_eqi.mp c4
    refine lv_aload_n hx hb dX1_putStem_14 rfl (lv_at hl 0 rfl) ?_
    have fx78 : V1 (kb + 50) = some (.inr (1, [.ref (kb + 51), .ref (kb + 52), .int (e_fd), .ref (kb + 53), .ref (kb + 55), .ref (kb + 57), .ref (qt), .ref (kb), .ref (kb + 5), .int (e_sz), .ref (kb + 59), .ref (kb + 60), .ref (kb + 61)])) := (o3 (kb + 50) (hq_tne hy0 hy1 (by simp))).trans (hc0)
    refine hp_get (v := .ref (qt)) hx hb hts hown hZ fx78 fl_X1_50 rfl dX1_putStem_15 ?_
    refine lv_iload_n hx hb dX1_putStem_18 rfl (lv_at hl 1 rfl) ?_
    refine lv_aload_n hx hb dX1_putStem_19 rfl (lv_at hl 0 rfl) ?_
    refine hp_get (v := .ref (kb + 52)) hx hb hts hown hZ fx78 fl_X1_18 rfl dX1_putStem_20 ?_
    refine hp_get (v := .int (tz1)) hx hb hts hown hZ e2 fl_X1_70 rfl dX1_putStem_23 ?_
    refine lv_aload_n hx hb dX1_putStem_26 rfl (lv_at hl 0 rfl) ?_
    refine hp_get (v := .ref (kb + 53)) hx hb hts hown hZ fx78 fl_X1_26 rfl dX1_putStem_27 ?_
    have fx79 : V1 (qt) = some (.inr (0, [.ref (qt + 1), .int (bc), .ref (qt + 14), .ref (qt + 75), .int (bv), .ref (qt + 76), .int (bl)])) := (o3 (qt) (by omega)).trans (hc2)
    have fx80 : V1 (kb + 53) = some (.inr (9, [.ref (kb + 53 + 1), .int (sz)])) := (o3 (kb + 53) (hq_tne hy2 hy1 (by simp))).trans (hc3)
    have fx81 : V1 (kb + 54) = some (.inl (cs 0, 30, .inl (sf_))) := (o3 (kb + 54) (hq_tne hy3 hy1 (by simp))).trans (hc4)
    have pk82 := hp0.keep (fun x7 (hx7 : qt + 77 ≤ x7 ∧ x7 < qt + 77 + 5 * bk.2.2.2.length) => o3 x7 (by omega))
    have pk83 := hp1.keep (fun x7 (hx7 : qt + 15 ≤ x7 ∧ x7 < qt + 15 + 2 * bk.2.1.length) => o3 x7 (by omega))
    have pk84 := hp2.keep (o3 (qt + 1) (by omega)) (o3 (qt + 14) (by omega)) (o3 (qt + 76) (by omega))
    refine hp_calli (hp_runV (As := [.int (v), .int (tz1), .ref (kb + 53)]) (rest := []) hx hb hml hown hts (x_ps l D cs B G V1 n hP.1 (qt) (kb + 53) (bb) (t9) (w) (bk) (v) (tz1) (bc) (bv) (bl) (sz) (sf_) hy2 hy3 fx79 fx80 fx81 pk82 pk83 pk84 hbl hgd hgd2 hBT ht9 hv hownr hown0 (by omega) (by omega)) hZ fx79 cv_X1_104 rfl rfl ⟨Nat.le_of_ble_eq_true rfl, Nat.le_of_ble_eq_true rfl⟩ rfl hl.1 rfl (Nat.le_of_ble_eq_true rfl) dX1_putStem_30 ⟨(Nat.le_of_ble_eq_true rfl), (Nat.le_of_ble_eq_true rfl)⟩) hZ (fun r88 V85 n86 _ _ hw87 hZ => ?_)
    obtain ⟨rfl, hq89, fr90, z91, u92, ho93, ho94, hp95, hp96, hp97⟩ := hw87
    have b98 := hq_rng z91
    have hP := hP.trans hq89 (fun _ h => Bool.noConfusion h)
    have hf99 := hq_rgB hP.1 hy3 ho94
    have b100 := hq_rng r88
    have b101 := hp97
    refine lv_pop hx hb dX1_putStem_33 rfl ?_
    refine lv_iconst (v := 1) hx hb dX1_putStem_34 (by decide) ?_
    have hl102 : (1 : Int32).toInt = 1 := by decide
    have fx103 : V85 (kb + 52) = some (.inr (10, [.int (tz0), .int (tz1), .int (tz2), .int (k), .int (tz4), .int (tz5), .int (tz6)])) := (fr90 (kb + 52) (hq_tne hy1 hy2 (by simp)) (hq_tne hy1 hy3 (by simp))).trans (e2)
    exact hp_zret hx hb hr rfl hlocks hZ ⟨rfl, hP, (fun x8 hne0 hne1 hne2 => (fr90 x8 hne1 hne2).trans (o3 x8 hne0)), z91, u92, fx103, ho93, ho94, Or.inl ⟨by omega, Or.inl (by omega), fun h9 => by omega, (by show sp_rp z91 u92 (sp_stm w bk (sp_nm w t9) (sp_ys tz1.toInt k.toInt)); rw [show sp_ys tz1.toInt k.toInt = tz1.toInt from if_pos (by omega)]; exact hp95)⟩, by omega⟩ dX1_putStem_35

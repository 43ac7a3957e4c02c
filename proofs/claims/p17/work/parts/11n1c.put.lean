set_option maxHeartbeats 4000000 in
set_option maxRecDepth 100000 in
theorem x_epe (l : Launch) (D : va_G) (cs : Nat → ClassId) (B : Nat) (G : hq_G) (V : hp_V) (n : Nat) (hI : hq_I cs G V) (kb : Nat) (qt : Nat) (bb : Nat) (w : sp_W) (bk : sp_B) (e_fd : Int32) (e_sz : Int32) (k : Int32) (bc : Int32) (bv : Int32) (bl : Int32) (tz0 : Int32) (tz1 : Int32) (tz2 : Int32) (tz3 : Int32) (tz4 : Int32) (tz5 : Int32) (tz6 : Int32) (sz : Int32) (sf_ : Nat → Int32) (ez : Int32) (ef : Nat → Int32) (SU : List Int) (hy0 : G (kb + 50) = some (14, 0, 0, 0)) (hy1 : G (kb + 52) = some (13, 0, 0, 0)) (hy2 : G (kb + 53) = some (0, 30, 0, 0)) (hy3 : G (kb + 54) = some (1, 30, 0, 0)) (hy4 : G (kb + 55) = some (0, 30, 0, 0)) (hy5 : G (kb + 56) = some (1, 30, 0, 0)) (hc0 : V (kb + 50) = some (.inr (1, [.ref (kb + 51), .ref (kb + 52), .int (e_fd), .ref (kb + 53), .ref (kb + 55), .ref (kb + 57), .ref (qt), .ref (kb), .ref (kb + 5), .int (e_sz), .ref (kb + 59), .ref (kb + 60), .ref (kb + 61)]))) (hc1 : V (kb + 52) = some (.inr (10, [.int (tz0), .int (tz1), .int (tz2), .int (tz3), .int (tz4), .int (tz5), .int (tz6)]))) (hc2 : V (qt) = some (.inr (0, [.ref (qt + 1), .int (bc), .ref (qt + 14), .ref (qt + 75), .int (bv), .ref (qt + 76), .int (bl)]))) (hc3 : V (kb + 53) = some (.inr (9, [.ref (kb + 53 + 1), .int (sz)]))) (hc4 : V (kb + 54) = some (.inl (cs 0, 30, .inl (sf_)))) (hc5 : V (kb + 55) = some (.inr (9, [.ref (kb + 55 + 1), .int (ez)]))) (hc6 : V (kb + 56) = some (.inl (cs 0, 30, .inl (ef)))) (hp0 : hx_LL cs V (qt + 77) w bk.2.2.2) (hp1 : hx_BS cs V qt) (hbl : bl.toInt = (bk.2.2.2.length : Int)) (hgd : sp_good w bk) (hgd2 : sp_good2 bk) (hBT : hx_BT G qt bb) (hsu : sp_rp sz sf_ SU) (hsl : SU.length ≤ 20) (hownr : tz2.toInt = -1 ∨ (0 ≤ tz2.toInt ∧ tz2.toInt < (bk.2.2.2.length : Int))) (how1 : -1 ≤ tz1.toInt ∧ tz1.toInt ≤ 59) (hez : 0 ≤ ez.toInt ∧ ez.toInt ≤ 30) (hne : kb + 61 < qt) (hk2 : -2 ≤ k.toInt ∧ k.toInt ≤ 60) : hp_M l yX1_putEnding cX1_putEnding 3 (some .boolean) ({ frames := 3, cells := 0, slots := 0, locals := 66 }) D cs B V n [.ref (kb + 50), .int (k)] (hp_QI D cs B (fun r V' n' => n = n' ∧ hq_P cs G (fun _ => true) V V' ∧ (∀ x, x ≠ kb + 52 → x ≠ kb + 55 → x ≠ kb + 56 → V' x = V x) ∧ (∃ tv4 : Int32, ∃ tv5 : Int32, ∃ tv6 : Int32, ∃ ez1 : Int32, ∃ ef1 : Nat → Int32, V' (kb + 52) = some (.inr (10, [.int (tz0), .int (tz1), .int (tz2), .int (tz3), .int (tv4), .int (tv5), .int (tv6)])) ∧ V' (kb + 55) = some (.inr (9, [.ref (kb + 55 + 1), .int (ez1)])) ∧ V' (kb + 56) = some (.inl (cs 0, 30, .inl (ef1))) ∧ ((r.toInt = 1 ∧ sp_ve bk.2.2.2.length tz2.toInt k.toInt ∧ (0 ≤ k.toInt → ¬ k.toInt = 60 → sp_kd bk.2.2.2 k.toInt.toNat = 1) ∧ tv4.toInt = k.toInt ∧ (tv5.toInt = -1 ∧ tv6.toInt = -1) ∧ sp_rp ez1 ef1 (sp_end w bk SU (sp_ye tz2.toInt k.toInt))) ∨ (r.toInt = 0 ∧ ((k.toInt = -2 ∧ tz2.toInt = -1) ∨ (¬ k.toInt = -2 ∧ ¬ k.toInt = 60 ∧ ¬ (0 ≤ k.toInt ∧ k.toInt < (bk.2.2.2.length : Int) ∧ sp_kd bk.2.2.2 k.toInt.toNat = 1 ∧ ¬ k.toInt = tz2.toInt))))) ∧ (0 ≤ ez1.toInt ∧ ez1.toInt ≤ 30)))) 0 0 := by
  refine hp_walk (R0 := RX1) (by decide) rfl ?_ (Nat.le_of_ble_eq_true rfl)
  intro p e s m below meth c ls hx hb hr hts hown hlocks hin hml hZ hl
  have hP : hq_P cs G (fun _ => true) V V := hq_P.rf hI
  have hl : lv_has ls 3 [(0, .ref (kb + 50)), (1, .int (k))] := hl
  have hb_e_fd := hq_rng e_fd
  have hb_e_sz := hq_rng e_sz
  have hb_k := hq_rng k
  have hb_bc := hq_rng bc
  have hb_bv := hq_rng bv
  have hb_bl := hq_rng bl
  have hb_tz0 := hq_rng tz0
  have hb_tz1 := hq_rng tz1
  have hb_tz2 := hq_rng tz2
  have hb_tz3 := hq_rng tz3
  have hb_tz4 := hq_rng tz4
  have hb_tz5 := hq_rng tz5
  have hb_tz6 := hq_rng tz6
  have hb_sz := hq_rng sz
  have hb_ez := hq_rng ez
  have hf_4 := hq_rgB hI hy3 hc4
  have hf_6 := hq_rgB hI hy5 hc6
  obtain ⟨⟨g1, hg1, hr1⟩, ⟨g2, hg2, hr2⟩, ⟨g3, hg3, hr3⟩⟩ := id hp1
  have hll9 := hp0.1
  have hsu1 := hsu.1
  refine lv_iload_n hx hb dX1_putEnding_0 rfl (lv_at hl 1 rfl) ?_
  refine lv_bipush (v := -2) hx hb dX1_putEnding_1 (by decide) ?_
  refine lv_icmp_ne (tgt := 16) hx hb dX1_putEnding_3 (by decide) (fun c1 => ?_) (fun c1 => ?_)
  · have c1 : ¬ (k).toInt = (-2 : Int) := fun h9 => c1 (hq_eqi.mpr h9)
    refine lv_iload_n hx hb dX1_putEnding_16 rfl (lv_at hl 1 rfl) ?_
    refine lv_istore_n (lv' := [(2, .int (k)), (0, .ref (kb + 50)), (1, .int (k))]) hx hb dX1_putEnding_17 rfl hl (by decide) rfl (fun ls hl => ?_)
    refine lv_iload_n hx hb dX1_putEnding_18 rfl (lv_at hl 2 rfl) ?_
    refine lv_bipush (v := 60) hx hb dX1_putEnding_19 (by decide) ?_
    refine lv_icmp_eq (tgt := 48) hx hb dX1_putEnding_21 (by decide) (fun c2 => ?_) (fun c2 => ?_)
    · have c2 : (k).toInt = (60 : Int) := hq_eqi.mp c2
      refine lv_aload_n hx hb dX1_putEnding_48 rfl (lv_at hl 1 rfl) ?_
      refine hp_get (v := .ref (kb + 52)) hx hb hts hown hZ hc0 fl_X1_18 rfl dX1_putEnding_49 ?_
      refine lv_iload_n hx hb dX1_putEnding_52 rfl (lv_at hl 2 rfl) ?_
      refine hp_put hx hb hts hown hZ hc1 fp_X1_111 rfl rfl (Nat.le_of_ble_eq_true rfl) dX1_putEnding_53 (fun V3 _ _ e4 o5 hZ => ?_)
      have e4 : V3 (kb + 52) = some (.inr (10, [.int (tz0), .int (tz1), .int (tz2), .int (tz3), .int (k), .int (tz5), .int (tz6)])) := e4
      have hP := hP.put hy1 e4 o5 (hq_c13 (show -1 ≤ (tz1).toInt ∧ (tz1).toInt ≤ 59 by omega) (show -1 ≤ (tz2).toInt ∧ (tz2).toInt ≤ 59 by omega)) rfl
      refine lv_aload_n hx hb dX1_putEnding_56 rfl (lv_at hl 1 rfl) ?_
      have fx6 : V3 (kb + 50) = some (.inr (1, [.ref (kb + 51), .ref (kb + 52), .int (e_fd), .ref (kb + 53), .ref (kb + 55), .ref (kb + 57), .ref (qt), .ref (kb), .ref (kb + 5), .int (e_sz), .ref (kb + 59), .ref (kb + 60), .ref (kb + 61)])) := (o5 (kb + 50) (hq_tne hy0 hy1 (by simp))).trans (hc0)
      refine hp_get (v := .ref (kb + 52)) hx hb hts hown hZ fx6 fl_X1_18 rfl dX1_putEnding_57 ?_
      refine lv_iconst (v := -1) hx hb dX1_putEnding_60 (by decide) ?_
      refine hp_put hx hb hts hown hZ e4 fp_X1_114 rfl rfl (Nat.le_of_ble_eq_true rfl) dX1_putEnding_61 (fun V7 _ _ e8 o9 hZ => ?_)
      have e8 : V7 (kb + 52) = some (.inr (10, [.int (tz0), .int (tz1), .int (tz2), .int (tz3), .int (k), .int (-1), .int (tz6)])) := e8
      have hP := hP.put hy1 e8 o9 (hq_c13 (show -1 ≤ (tz1).toInt ∧ (tz1).toInt ≤ 59 by omega) (show -1 ≤ (tz2).toInt ∧ (tz2).toInt ≤ 59 by omega)) rfl
      refine lv_aload_n hx hb dX1_putEnding_64 rfl (lv_at hl 1 rfl) ?_
      have fx10 : V7 (kb + 50) = some (.inr (1, [.ref (kb + 51), .ref (kb + 52), .int (e_fd), .ref (kb + 53), .ref (kb + 55), .ref (kb + 57), .ref (qt), .ref (kb), .ref (kb + 5), .int (e_sz), .ref (kb + 59), .ref (kb + 60), .ref (kb + 61)])) := (o9 (kb + 50) (hq_tne hy0 hy1 (by simp))).trans (fx6)
      refine hp_get (v := .ref (kb + 52)) hx hb hts hown hZ fx10 fl_X1_18 rfl dX1_putEnding_65 ?_
      refine lv_iconst (v := -1) hx hb dX1_putEnding_68 (by decide) ?_
      refine hp_put hx hb hts hown hZ e8 fp_X1_117 rfl rfl (Nat.le_of_ble_eq_true rfl) dX1_putEnding_69 (fun V11 _ _ e12 o13 hZ => ?_)
      have e12 : V11 (kb + 52) = some (.inr (10, [.int (tz0), .int (tz1), .int (tz2), .int (tz3), .int (k), .int (-1), .int (-1)])) := e12
      have hP := hP.put hy1 e12 o13 (hq_c13 (show -1 ≤ (tz1).toInt ∧ (tz1).toInt ≤ 59 by omega) (show -1 ≤ (tz2).toInt ∧ (tz2).toInt ≤ 59 by omega)) rfl
      refine lv_aload_n hx hb dX1_putEnding_72 rfl (lv_at hl 1 rfl) ?_
      have fx14 : V11 (kb + 50) = some (.inr (1, [.ref (kb + 51), .ref (kb + 52), .int (e_fd), .ref (kb + 53), .ref (kb + 55), .ref (kb + 57), .ref (qt), .ref (kb), .ref (kb + 5), .int (e_sz), .ref (kb + 59), .ref (kb + 60), .ref (kb + 61)])) := (o13 (kb + 50) (hq_tne hy0 hy1 (by simp))).trans (fx10)
      refine hp_get (v := .ref (kb + 55)) hx hb hts hown hZ fx14 fl_X1_30 rfl dX1_putEnding_73 ?_
      refine lv_aload_n hx hb dX1_putEnding_76 rfl (lv_at hl 1 rfl) ?_
      refine hp_get (v := .ref (kb + 53)) hx hb hts hown hZ fx14 fl_X1_26 rfl dX1_putEnding_77 ?_
      have fx15 : V11 (kb + 55) = some (.inr (9, [.ref (kb + 55 + 1), .int (ez)])) := (o13 (kb + 55) (hq_tne hy4 hy1 (by simp))).trans ((o9 (kb + 55) (hq_tne hy4 hy1 (by simp))).trans ((o5 (kb + 55) (hq_tne hy4 hy1 (by simp))).trans (hc5)))
      have fx16 : V11 (kb + 56) = some (.inl (cs 0, 30, .inl (ef))) := (o13 (kb + 56) (hq_tne hy5 hy1 (by simp))).trans ((o9 (kb + 56) (hq_tne hy5 hy1 (by simp))).trans ((o5 (kb + 56) (hq_tne hy5 hy1 (by simp))).trans (hc6)))
      have fx17 : V11 (kb + 53) = some (.inr (9, [.ref (kb + 53 + 1), .int (sz)])) := (o13 (kb + 53) (hq_tne hy2 hy1 (by simp))).trans ((o9 (kb + 53) (hq_tne hy2 hy1 (by simp))).trans ((o5 (kb + 53) (hq_tne hy2 hy1 (by simp))).trans (hc3)))
      have fx18 : V11 (kb + 54) = some (.inl (cs 0, 30, .inl (sf_))) := (o13 (kb + 54) (hq_tne hy3 hy1 (by simp))).trans ((o9 (kb + 54) (hq_tne hy3 hy1 (by simp))).trans ((o5 (kb + 54) (hq_tne hy3 hy1 (by simp))).trans (hc4)))
      refine hp_callv (hp_runV (As := [.ref (kb + 53)]) (rest := []) hx hb hml hown hts (x_set l D cs B G V11 n hP.1 (kb + 55) (30) (kb + 53) (30) (ez) (ef) (sz) (sf_) hy4 hy5 hy3 fx15 fx16 fx17 fx18  (by omega) (by decide) (by decide) (by omega) (by omega)) hZ fx15 cv_X1_120 rfl rfl ⟨Nat.le_of_ble_eq_true rfl, Nat.le_of_ble_eq_true rfl⟩ rfl hl.1 rfl (Nat.le_of_ble_eq_true rfl) dX1_putEnding_80 ⟨(Nat.le_of_ble_eq_true rfl), (Nat.le_of_ble_eq_true rfl)⟩) hZ (fun V19 n20 _ _ hw21 hZ => ?_)
      obtain ⟨rfl, hq23, fr24, z25, u26, ho27, ho28, hp29, hp30⟩ := hw21
      have b31 := hq_rng z25
      have hP := hP.trans hq23 (fun _ h => Bool.noConfusion h)
      have hf32 := hq_rgB hP.1 hy5 ho28
      have hwd : sp_rp z25 u26 SU := ⟨by omega, fun k9 x9 hx9 => by have h9 := (List.getElem?_eq_some_iff.mp hx9).1; rw [hp30 k9 (by omega)]; exact hsu.2 k9 x9 hx9⟩
      have hwd1 := hwd.1
      refine lv_iload_n hx hb dX1_putEnding_83 rfl (lv_at hl 2 rfl) ?_
      refine lv_bipush (v := 60) hx hb dX1_putEnding_84 (by decide) ?_
      have hl33 : (60 : Int32).toInt = 60 := by decide
      refine lv_icmp_eq (tgt := 116) hx hb dX1_putEnding_86 (by decide) (fun c34 => ?_) (fun c34 => absurd ((Int32.toInt_inj.mp (by omega) : k = 60)) c34)
      refine lv_iconst (v := 1) hx hb dX1_putEnding_116 (by decide) ?_
      refine lv_goto (tgt := 121) hx hb dX1_putEnding_117 (by decide) ?_
      have hl35 : (1 : Int32).toInt = 1 := by decide
      have fx36 : V19 (kb + 52) = some (.inr (10, [.int (tz0), .int (tz1), .int (tz2), .int (tz3), .int (k), .int (-1), .int (-1)])) := (fr24 (kb + 52) (hq_tne hy1 hy4 (by simp)) (hq_tne hy1 hy5 (by simp))).trans (e12)
      have hl37 : (-1 : Int32).toInt = -1 := by decide
      have hl38 : (-1 : Int32).toInt = -1 := by decide
      exact hp_zret hx hb hr rfl hlocks hZ ⟨rfl, hP, (fun x8 hne0 hne1 hne2 => (fr24 x8 hne1 hne2).trans ((o13 x8 hne0).trans ((o9 x8 hne0).trans (o5 x8 hne0)))), k, -1, -1, z25, u26, fx36, ho27, ho28, Or.inl ⟨by omega, Or.inr (Or.inl (by omega)), fun h9 h8 => by omega, by omega, ⟨by omega, by omega⟩, (by rw [sp_end_0 (show sp_ye tz2.toInt k.toInt = -1 by unfold sp_ye; rw [if_neg (by omega), if_pos (by omega)])]; exact hwd)⟩, by omega⟩ dX1_putEnding_121
    · have c2 : ¬ (k).toInt = (60 : Int) := fun h9 => c2 (hq_eqi.mpr h9)
      refine lv_iload_n hx hb dX1_putEnding_24 rfl (lv_at hl 2 rfl) ?_
      refine lv_bipush (v := -2) hx hb dX1_putEnding_25 (by decide) ?_
      refine lv_icmp_eq (tgt := 48) hx hb dX1_putEnding_27 (by decide) (fun c39 => ?_) (fun c39 => ?_)
      · have c39 : (k).toInt = (-2 : Int) := hq_eqi.mp c39
        exfalso
        omega
      · have c39 : ¬ (k).toInt = (-2 : Int) := fun h9 => c39 (hq_eqi.mpr h9)
        refine lv_aload_n hx hb dX1_putEnding_30 rfl (lv_at hl 1 rfl) ?_
        refine lv_iload_n hx hb dX1_putEnding_31 rfl (lv_at hl 2 rfl) ?_
        refine lv_iconst (v := 1) hx hb dX1_putEnding_32 (by decide) ?_
        refine lv_aload_n hx hb dX1_putEnding_33 rfl (lv_at hl 1 rfl) ?_
        refine hp_get (v := .ref (kb + 52)) hx hb hts hown hZ hc0 fl_X1_18 rfl dX1_putEnding_34 ?_
        refine hp_get (v := .int (tz2)) hx hb hts hown hZ hc1 fl_X1_73 rfl dX1_putEnding_37 ?_
        have hl40 : (1 : Int32).toInt = 1 := by decide
        refine hp_calli (hp_runV (As := [.int (k), .int (1), .int (tz2)]) (rest := []) hx hb hml hown hts (x_isOther l D cs B G V n hP.1 (kb) (qt) (bb) (w) (bk) (e_fd) (e_sz) (k) (1) (tz2) (bc) (bv) (bl)  hc0 hc2 hp0 hp1 hbl hgd hgd2 hBT) hZ hc0 cv_X1_107 rfl rfl ⟨Nat.le_of_ble_eq_true rfl, Nat.le_of_ble_eq_true rfl⟩ rfl hl.1 rfl (Nat.le_of_ble_eq_true rfl) dX1_putEnding_40 ⟨(Nat.le_of_ble_eq_true rfl), (Nat.le_of_ble_eq_true rfl)⟩) hZ (fun r44 V41 n42 _ _ hw43 hZ => ?_)
        obtain ⟨rfl, rfl, hp47⟩ := hw43
        have b48 := hq_rng r44
        have hio := hp47
        rw [show (1 : Int32).toInt = 1 from rfl] at hio
        refine lv_if_ne (tgt := 48) hx hb dX1_putEnding_43 (by decide) (fun c49 => ?_) (fun c49 => ?_)
        · have c49 : ¬ (r44).toInt = (0 : Int) := fun h9 => c49 (hq_eqi.mpr h9)
          have hyo : (0 ≤ k.toInt ∧ k.toInt < (bk.2.2.2.length : Int) ∧ sp_kd bk.2.2.2 k.toInt.toNat = 1 ∧ ¬ k.toInt = tz2.toInt) := by rcases hio with g9 | g9; (· exact g9.2); (· omega)
          refine lv_aload_n hx hb dX1_putEnding_48 rfl (lv_at hl 1 rfl) ?_
          refine hp_get (v := .ref (kb + 52)) hx hb hts hown hZ hc0 fl_X1_18 rfl dX1_putEnding_49 ?_
          refine lv_iload_n hx hb dX1_putEnding_52 rfl (lv_at hl 2 rfl) ?_
          refine hp_put hx hb hts hown hZ hc1 fp_X1_111 rfl rfl (Nat.le_of_ble_eq_true rfl) dX1_putEnding_53 (fun V50 _ _ e51 o52 hZ => ?_)
          have e51 : V50 (kb + 52) = some (.inr (10, [.int (tz0), .int (tz1), .int (tz2), .int (tz3), .int (k), .int (tz5), .int (tz6)])) := e51
          have hP := hP.put hy1 e51 o52 (hq_c13 (show -1 ≤ (tz1).toInt ∧ (tz1).toInt ≤ 59 by omega) (show -1 ≤ (tz2).toInt ∧ (tz2).toInt ≤ 59 by omega)) rfl
          refine lv_aload_n hx hb dX1_putEnding_56 rfl (lv_at hl 1 rfl) ?_
          have fx53 : V50 (kb + 50) = some (.inr (1, [.ref (kb + 51), .ref (kb + 52), .int (e_fd), .ref (kb + 53), .ref (kb + 55), .ref (kb + 57), .ref (qt), .ref (kb), .ref (kb + 5), .int (e_sz), .ref (kb + 59), .ref (kb + 60), .ref (kb + 61)])) := (o52 (kb + 50) (hq_tne hy0 hy1 (by simp))).trans (hc0)
          refine hp_get (v := .ref (kb + 52)) hx hb hts hown hZ fx53 fl_X1_18 rfl dX1_putEnding_57 ?_
          refine lv_iconst (v := -1) hx hb dX1_putEnding_60 (by decide) ?_
          refine hp_put hx hb hts hown hZ e51 fp_X1_114 rfl rfl (Nat.le_of_ble_eq_true rfl) dX1_putEnding_61 (fun V54 _ _ e55 o56 hZ => ?_)
          have e55 : V54 (kb + 52) = some (.inr (10, [.int (tz0), .int (tz1), .int (tz2), .int (tz3), .int (k), .int (-1), .int (tz6)])) := e55
          have hP := hP.put hy1 e55 o56 (hq_c13 (show -1 ≤ (tz1).toInt ∧ (tz1).toInt ≤ 59 by omega) (show -1 ≤ (tz2).toInt ∧ (tz2).toInt ≤ 59 by omega)) rfl
          refine lv_aload_n hx hb dX1_putEnding_64 rfl (lv_at hl 1 rfl) ?_
          have fx57 : V54 (kb + 50) = some (.inr (1, [.ref (kb + 51), .ref (kb + 52), .int (e_fd), .ref (kb + 53), .ref (kb + 55), .ref (kb + 57), .ref (qt), .ref (kb), .ref (kb + 5), .int (e_sz), .ref (kb + 59), .ref (kb + 60), .ref (kb + 61)])) := (o56 (kb + 50) (hq_tne hy0 hy1 (by simp))).trans (fx53)
          refine hp_get (v := .ref (kb + 52)) hx hb hts hown hZ fx57 fl_X1_18 rfl dX1_putEnding_65 ?_
          refine lv_iconst (v := -1) hx hb dX1_putEnding_68 (by decide) ?_
          refine hp_put hx hb hts hown hZ e55 fp_X1_117 rfl rfl (Nat.le_of_ble_eq_true rfl) dX1_putEnding_69 (fun V58 _ _ e59 o60 hZ => ?_)
          have e59 : V58 (kb + 52) = some (.inr (10, [.int (tz0), .int (tz1), .int (tz2), .int (tz3), .int (k), .int (-1), .int (-1)])) := e59
          have hP := hP.put hy1 e59 o60 (hq_c13 (show -1 ≤ (tz1).toInt ∧ (tz1).toInt ≤ 59 by omega) (show -1 ≤ (tz2).toInt ∧ (tz2).toInt ≤ 59 by omega)) rfl
          refine lv_aload_n hx hb dX1_putEnding_72 rfl (lv_at hl 1 rfl) ?_
          have fx61 : V58 (kb + 50) = some (.inr (1, [.ref (kb + 51), .ref (kb + 52), .int (e_fd), .ref (kb + 53), .ref (kb + 55), .ref (kb + 57), .ref (qt), .ref (kb), .ref (kb + 5), .int (e_sz), .ref (kb + 59), .ref (kb + 60), .ref (kb + 61)])) := (o60 (kb + 50) (hq_tne hy0 hy1 (by simp))).trans (fx57)
          refine hp_get (v := .ref (kb + 55)) hx hb hts hown hZ fx61 fl_X1_30 rfl dX1_putEnding_73 ?_
          refine lv_aload_n hx hb dX1_putEnding_76 rfl (lv_at hl 1 rfl) ?_
          refine hp_get (v := .ref (kb + 53)) hx hb hts hown hZ fx61 fl_X1_26 rfl dX1_putEnding_77 ?_
          have fx62 : V58 (kb + 55) = some (.inr (9, [.ref (kb + 55 + 1), .int (ez)])) := (o60 (kb + 55) (hq_tne hy4 hy1 (by simp))).trans ((o56 (kb + 55) (hq_tne hy4 hy1 (by simp))).trans ((o52 (kb + 55) (hq_tne hy4 hy1 (by simp))).trans (hc5)))
          have fx63 : V58 (kb + 56) = some (.inl (cs 0, 30, .inl (ef))) := (o60 (kb + 56) (hq_tne hy5 hy1 (by simp))).trans ((o56 (kb + 56) (hq_tne hy5 hy1 (by simp))).trans ((o52 (kb + 56) (hq_tne hy5 hy1 (by simp))).trans (hc6)))
          have fx64 : V58 (kb + 53) = some (.inr (9, [.ref (kb + 53 + 1), .int (sz)])) := (o60 (kb + 53) (hq_tne hy2 hy1 (by simp))).trans ((o56 (kb + 53) (hq_tne hy2 hy1 (by simp))).trans ((o52 (kb + 53) (hq_tne hy2 hy1 (by simp))).trans (hc3)))
          have fx65 : V58 (kb + 54) = some (.inl (cs 0, 30, .inl (sf_))) := (o60 (kb + 54) (hq_tne hy3 hy1 (by simp))).trans ((o56 (kb + 54) (hq_tne hy3 hy1 (by simp))).trans ((o52 (kb + 54) (hq_tne hy3 hy1 (by simp))).trans (hc4)))
          refine hp_callv (hp_runV (As := [.ref (kb + 53)]) (rest := []) hx hb hml hown hts (x_set l D cs B G V58 n hP.1 (kb + 55) (30) (kb + 53) (30) (ez) (ef) (sz) (sf_) hy4 hy5 hy3 fx62 fx63 fx64 fx65  (by omega) (by decide) (by decide) (by omega) (by omega)) hZ fx62 cv_X1_120 rfl rfl ⟨Nat.le_of_ble_eq_true rfl, Nat.le_of_ble_eq_true rfl⟩ rfl hl.1 rfl (Nat.le_of_ble_eq_true rfl) dX1_putEnding_80 ⟨(Nat.le_of_ble_eq_true rfl), (Nat.le_of_ble_eq_true rfl)⟩) hZ (fun V66 n67 _ _ hw68 hZ => ?_)
          obtain ⟨rfl, hq70, fr71, z72, u73, ho74, ho75, hp76, hp77⟩ := hw68
          have b78 := hq_rng z72
          have hP := hP.trans hq70 (fun _ h => Bool.noConfusion h)
          have hf79 := hq_rgB hP.1 hy5 ho75
          have hwd : sp_rp z72 u73 SU := ⟨by omega, fun k9 x9 hx9 => by have h9 := (List.getElem?_eq_some_iff.mp hx9).1; rw [hp77 k9 (by omega)]; exact hsu.2 k9 x9 hx9⟩
          have hwd1 := hwd.1
          refine lv_iload_n hx hb dX1_putEnding_83 rfl (lv_at hl 2 rfl) ?_
          refine lv_bipush (v := 60) hx hb dX1_putEnding_84 (by decide) ?_
          refine lv_icmp_eq (tgt := 116) hx hb dX1_putEnding_86 (by decide) (fun c80 => ?_) (fun c80 => ?_)
          · have c80 : (k).toInt = (60 : Int) := hq_eqi.mp c80
            refine lv_iconst (v := 1) hx hb dX1_putEnding_116 (by decide) ?_
            refine lv_goto (tgt := 121) hx hb dX1_putEnding_117 (by decide) ?_
            have hl81 : (1 : Int32).toInt = 1 := by decide
            have fx82 : V66 (kb + 52) = some (.inr (10, [.int (tz0), .int (tz1), .int (tz2), .int (tz3), .int (k), .int (-1), .int (-1)])) := (fr71 (kb + 52) (hq_tne hy1 hy4 (by simp)) (hq_tne hy1 hy5 (by simp))).trans (e59)
            have hl83 : (-1 : Int32).toInt = -1 := by decide
            have hl84 : (-1 : Int32).toInt = -1 := by decide
            exact hp_zret hx hb hr rfl hlocks hZ ⟨rfl, hP, (fun x8 hne0 hne1 hne2 => (fr71 x8 hne1 hne2).trans ((o60 x8 hne0).trans ((o56 x8 hne0).trans (o52 x8 hne0)))), k, -1, -1, z72, u73, fx82, ho74, ho75, Or.inl ⟨by omega, Or.inr (Or.inl (by omega)), fun h9 h8 => by omega, by omega, ⟨by omega, by omega⟩, (by rw [sp_end_0 (show sp_ye tz2.toInt k.toInt = -1 by unfold sp_ye; rw [if_neg (by omega), if_pos (by omega)])]; exact hwd)⟩, by omega⟩ dX1_putEnding_121
          · have c80 : ¬ (k).toInt = (60 : Int) := fun h9 => c80 (hq_eqi.mpr h9)
            refine lv_iload_n hx hb dX1_putEnding_89 rfl (lv_at hl 0 rfl) ?_
            refine lv_iconst (v := -1) hx hb dX1_putEnding_90 (by decide) ?_
            refine lv_icmp_eq (tgt := 120) hx hb dX1_putEnding_91 (by decide) (fun c85 => ?_) (fun c85 => ?_)
            · have c85 : (k).toInt = (-1 : Int) := hq_eqi.mp c85
              refine lv_iconst (v := 0) hx hb dX1_putEnding_120 (by decide) ?_
              have hl86 : (0 : Int32).toInt = 0 := by decide
              have fx87 : V66 (kb + 52) = some (.inr (10, [.int (tz0), .int (tz1), .int (tz2), .int (tz3), .int (k), .int (-1), .int (-1)])) := (fr71 (kb + 52) (hq_tne hy1 hy4 (by simp)) (hq_tne hy1 hy5 (by simp))).trans (e59)
              have hl88 : (-1 : Int32).toInt = -1 := by decide
              have hl89 : (-1 : Int32).toInt = -1 := by decide
              exact hp_zret hx hb hr rfl hlocks hZ ⟨rfl, hP, (fun x8 hne0 hne1 hne2 => (fr71 x8 hne1 hne2).trans ((o60 x8 hne0).trans ((o56 x8 hne0).trans (o52 x8 hne0)))), k, -1, -1, z72, u73, fx87, ho74, ho75, Or.inr ⟨by omega, Or.inl ⟨by omega, by omega⟩⟩, by omega⟩ dX1_putEnding_121
            · have c85 : ¬ (k).toInt = (-1 : Int) := fun h9 => c85 (hq_eqi.mpr h9)
              refine lv_aload_n hx hb dX1_putEnding_94 rfl (lv_at hl 1 rfl) ?_
              have fx90 : V66 (kb + 50) = some (.inr (1, [.ref (kb + 51), .ref (kb + 52), .int (e_fd), .ref (kb + 53), .ref (kb + 55), .ref (kb + 57), .ref (qt), .ref (kb), .ref (kb + 5), .int (e_sz), .ref (kb + 59), .ref (kb + 60), .ref (kb + 61)])) := (fr71 (kb + 50) (hq_tne hy0 hy4 (by simp)) (hq_tne hy0 hy5 (by simp))).trans (fx61)
              refine hp_get (v := .ref (kb + 55)) hx hb hts hown hZ fx90 fl_X1_30 rfl dX1_putEnding_95 ?_
              refine lv_aload_n hx hb dX1_putEnding_98 rfl (lv_at hl 1 rfl) ?_
              refine hp_get (v := .ref (qt)) hx hb hts hown hZ fx90 fl_X1_50 rfl dX1_putEnding_99 ?_
              have fx91 : V66 (qt) = some (.inr (0, [.ref (qt + 1), .int (bc), .ref (qt + 14), .ref (qt + 75), .int (bv), .ref (qt + 76), .int (bl)])) := (fr71 (qt) (by omega) (by omega)).trans ((o60 (qt) (by omega)).trans ((o56 (qt) (by omega)).trans ((o52 (qt) (by omega)).trans (hc2))))
              refine hp_get (v := .ref (qt + 76)) hx hb hts hown hZ fx91 fl_X1_124 rfl dX1_putEnding_102 ?_
              refine lv_iload_n hx hb dX1_putEnding_105 rfl (lv_at hl 0 rfl) ?_
              have fx92 : V66 (qt + 76) = some (.inl (cs 6, 60, .inr (.inr (.inr (.inr (g3)))))) := (fr71 (qt + 76) (by omega) (by omega)).trans ((o60 (qt + 76) (by omega)).trans ((o56 (qt + 76) (by omega)).trans ((o52 (qt + 76) (by omega)).trans (hg3))))
              have hixla9 : 0 ≤ (k).toInt ∧ (k).toInt < (bk.2.2.2.length : Int) := by omega
              obtain ⟨la9, hla9⟩ : ∃ ta, ta = qt + 77 + 5 * (k).toNatClampNeg := ⟨_, rfl⟩
              have hiila9 : ((k).toNatClampNeg : Int) = (k).toInt := (hq_nn (by omega)).1.symm
              have hla91 : g3 (k).toNatClampNeg = some la9 := by rw [hla9]; exact hr3 _ (by omega)
              obtain ⟨xla9, hxla9⟩ : ∃ t, bk.2.2.2[(k).toNatClampNeg]? = some t := ⟨_, List.getElem?_eq_getElem (by omega)⟩
              have pk93 := hp0.keep (fun x7 (hx7 : qt + 77 ≤ x7 ∧ x7 < qt + 77 + 5 * bk.2.2.2.length) => (fr71 x7 (by omega) (by omega)).trans ((o60 x7 (by omega)).trans ((o56 x7 (by omega)).trans (o52 x7 (by omega)))))
              obtain ⟨ak, ao, at9, ap, ah, aht, apa, ala, ha1, ha2, ha3, ha4, ha5, ha6, ha7, hlt1, hlt2⟩ := (show hx_LN cs V66 la9 w xla9 by rw [hla9]; exact pk93.2 _ _ hxla9)
              obtain ⟨fz, ff, hfz1, hfz2, hfz3, hfz4, hfz5⟩ := hlt1.rp
              obtain ⟨sz, sf, hsz1, hsz2, hsz3, hsz4, hsz5⟩ := hlt2.rp
              have hfzl := hfz5.1
              have hszl := hsz5.1
              obtain ⟨hgl1, hgl2, hgl3⟩ := hgd.1 _ _ hxla9
              obtain ⟨hgm1, hgm2, hgm3, hgm4⟩ := hgd2 _ _ hxla9
              have hyl := hBT.2.2 (k).toNatClampNeg (by omega)
              rw [← hla9] at hyl
              have hfrf := hq_rgB hP.1 hyl.2.2.1 hfz2
              have hfrs := hq_rgB hP.1 hyl.2.2.2.2 hsz2
              have hfela9 := (show sp_rp fz ff (sp_F w xla9) from hfz5).1
              have hsela9 := (show sp_rp sz sf (sp_S2 w xla9) from hsz5).1
              refine hp_aald (v := .ref (la9)) hx hb hZ 6 fx92 rfl (hq_in (by omega) (by omega)) (by rw [hla91]; rfl) dX1_putEnding_106 ?_
              refine hp_get (v := .ref (la9 + 1)) hx hb hts hown hZ ha1 fl_X1_128 rfl dX1_putEnding_107 ?_
              refine hp_calli (hp_runV (As := [.ref (la9 + 1)]) (rest := []) hx hb hml hown hts (x_addA l D cs B G V66 n hP.1 (kb + 55) (30) (la9 + 1) (8) (z72) (u73) (SU) (fz) (ff) ((sp_F w xla9)) hy4 hy5 hyl.2.2.1 ho74 ho75 hfz1 hfz2  hwd hfz5 (by omega) (by omega) (by decide) (by decide) (by omega)) hZ ho74 cv_X1_133 rfl rfl ⟨Nat.le_of_ble_eq_true rfl, Nat.le_of_ble_eq_true rfl⟩ rfl hl.1 rfl (Nat.le_of_ble_eq_true rfl) dX1_putEnding_110 ⟨(Nat.le_of_ble_eq_true rfl), (Nat.le_of_ble_eq_true rfl)⟩) hZ (fun r97 V94 n95 _ _ hw96 hZ => ?_)
              obtain ⟨rfl, hq98, fr99, z100, u101, ho102, ho103, hp104, hp105⟩ := hw96
              have b106 := hq_rng z100
              have hP := hP.trans hq98 (fun _ h => Bool.noConfusion h)
              have hf107 := hq_rgB hP.1 hy5 ho103
              have b108 := hq_rng r97
              have hap : sp_rp z100 u101 (SU ++ sp_F w xla9) := by rcases hp104 with g9 | g9; (· exact g9.2.2); (· exfalso; have g8 := g9.1; omega)
              have hapr : (r97).toInt = 1 := by rcases hp104 with g9 | g9; (· exact g9.2.1); (· exfalso; have g8 := g9.1; omega)
              have b109 := hp105
              have hl110 : (0 : Int32).toInt = 0 := by decide
              refine lv_if_eq (tgt := 120) hx hb dX1_putEnding_113 (by decide) (fun c111 => absurd c111 ((fun h9 => absurd (congrArg Int32.toInt h9) (by omega) : ¬ r97 = 0))) (fun c111 => ?_)
              refine lv_iconst (v := 1) hx hb dX1_putEnding_116 (by decide) ?_
              refine lv_goto (tgt := 121) hx hb dX1_putEnding_117 (by decide) ?_
              have hl112 : (1 : Int32).toInt = 1 := by decide
              have fx113 : V94 (kb + 52) = some (.inr (10, [.int (tz0), .int (tz1), .int (tz2), .int (tz3), .int (k), .int (-1), .int (-1)])) := (fr99 (kb + 52) (hq_tne hy1 hy4 (by simp)) (hq_tne hy1 hy5 (by simp))).trans ((fr71 (kb + 52) (hq_tne hy1 hy4 (by simp)) (hq_tne hy1 hy5 (by simp))).trans (e59))
              have hl114 : (-1 : Int32).toInt = -1 := by decide
              have hl115 : (-1 : Int32).toInt = -1 := by decide
              exact hp_zret hx hb hr rfl hlocks hZ ⟨rfl, hP, (fun x8 hne0 hne1 hne2 => (fr99 x8 hne1 hne2).trans ((fr71 x8 hne1 hne2).trans ((o60 x8 hne0).trans ((o56 x8 hne0).trans (o52 x8 hne0))))), k, -1, -1, z100, u101, fx113, ho102, ho103, Or.inl ⟨by omega, Or.inr (Or.inr ⟨hyo.1, hyo.2.1, hyo.2.2.2⟩), fun h9 h8 => hyo.2.2.1, by omega, ⟨by omega, by omega⟩, (by rw [show sp_ye tz2.toInt k.toInt = k.toInt by unfold sp_ye; rw [if_neg (by omega), if_neg (by omega)], sp_end_y (by omega) hxla9]; exact hap)⟩, by omega⟩ dX1_putEnding_121
        · have c49 : (r44).toInt = (0 : Int) := hq_eqi.mp c49
          have hno : ¬ (0 ≤ k.toInt ∧ k.toInt < (bk.2.2.2.length : Int) ∧ sp_kd bk.2.2.2 k.toInt.toNat = 1 ∧ ¬ k.toInt = tz2.toInt) := by rcases hio with g9 | g9; (· omega); (· exact g9.2)
          refine lv_iconst (v := 0) hx hb dX1_putEnding_46 (by decide) ?_
          have hl116 : (0 : Int32).toInt = 0 := by decide
          exact hp_zret hx hb hr rfl hlocks hZ ⟨rfl, hP, (fun x8 hne0 hne1 hne2 => rfl), tz4, tz5, tz6, ez, ef, hc1, hc5, hc6, Or.inr ⟨by omega, Or.inr ⟨by omega, by omega, hno⟩⟩, by omega⟩ dX1_putEnding_47
  · have c1 : (k).toInt = (-2 : Int) := hq_eqi.mp c1
    refine lv_aload_n hx hb dX1_putEnding_6 rfl (lv_at hl 0 rfl) ?_
    refine hp_get (v := .ref (kb + 52)) hx hb hts hown hZ hc0 fl_X1_18 rfl dX1_putEnding_7 ?_
    refine hp_get (v := .int (tz2)) hx hb hts hown hZ hc1 fl_X1_73 rfl dX1_putEnding_10 ?_
    refine lv_goto (tgt := 17) hx hb dX1_putEnding_13 (by decide) ?_
    refine lv_istore_n (lv' := [(2, .int (tz2)), (0, .ref (kb + 50)), (1, .int (k))]) hx hb dX1_putEnding_17 rfl hl (by decide) rfl (fun ls hl => ?_)
    refine lv_iload_n hx hb dX1_putEnding_18 rfl (lv_at hl 2 rfl) ?_
    refine lv_bipush (v := 60) hx hb dX1_putEnding_19 (by decide) ?_
    have hl117 : (60 : Int32).toInt = 60 := by decide
    refine lv_icmp_eq (tgt := 48) hx hb dX1_putEnding_21 (by decide) (fun c118 => absurd c118 ((fun h9 => absurd (congrArg Int32.toInt h9) (by omega) : ¬ k = 60))) (fun c118 => ?_)
    refine lv_iload_n hx hb dX1_putEnding_24 rfl (lv_at hl 2 rfl) ?_
    refine lv_bipush (v := -2) hx hb dX1_putEnding_25 (by decide) ?_
    have hl119 : (-2 : Int32).toInt = -2 := by decide
    refine lv_icmp_eq (tgt := 48) hx hb dX1_putEnding_27 (by decide) (fun c120 => ?_) (fun c120 => absurd ((Int32.toInt_inj.mp (by omega) : k = -2)) c120)
    refine lv_aload_n hx hb dX1_putEnding_48 rfl (lv_at hl 1 rfl) ?_
    refine hp_get (v := .ref (kb + 52)) hx hb hts hown hZ hc0 fl_X1_18 rfl dX1_putEnding_49 ?_
    refine lv_iload_n hx hb dX1_putEnding_52 rfl (lv_at hl 2 rfl) ?_
    refine hp_put hx hb hts hown hZ hc1 fp_X1_111 rfl rfl (Nat.le_of_ble_eq_true rfl) dX1_putEnding_53 (fun V121 _ _ e122 o123 hZ => ?_)
    have e122 : V121 (kb + 52) = some (.inr (10, [.int (tz0), .int (tz1), .int (tz2), .int (tz3), .int (k), .int (tz5), .int (tz6)])) := e122
    have hP := hP.put hy1 e122 o123 (hq_c13 (show -1 ≤ (tz1).toInt ∧ (tz1).toInt ≤ 59 by omega) (show -1 ≤ (tz2).toInt ∧ (tz2).toInt ≤ 59 by omega)) rfl
    refine lv_aload_n hx hb dX1_putEnding_56 rfl (lv_at hl 1 rfl) ?_
    have fx124 : V121 (kb + 50) = some (.inr (1, [.ref (kb + 51), .ref (kb + 52), .int (e_fd), .ref (kb + 53), .ref (kb + 55), .ref (kb + 57), .ref (qt), .ref (kb), .ref (kb + 5), .int (e_sz), .ref (kb + 59), .ref (kb + 60), .ref (kb + 61)])) := (o123 (kb + 50) (hq_tne hy0 hy1 (by simp))).trans (hc0)
    refine hp_get (v := .ref (kb + 52)) hx hb hts hown hZ fx124 fl_X1_18 rfl dX1_putEnding_57 ?_
    refine lv_iconst (v := -1) hx hb dX1_putEnding_60 (by decide) ?_
    refine hp_put hx hb hts hown hZ e122 fp_X1_114 rfl rfl (Nat.le_of_ble_eq_true rfl) dX1_putEnding_61 (fun V125 _ _ e126 o127 hZ => ?_)
    have e126 : V125 (kb + 52) = some (.inr (10, [.int (tz0), .int (tz1), .int (tz2), .int (tz3), .int (k), .int (-1), .int (tz6)])) := e126
    have hP := hP.put hy1 e126 o127 (hq_c13 (show -1 ≤ (tz1).toInt ∧ (tz1).toInt ≤ 59 by omega) (show -1 ≤ (tz2).toInt ∧ (tz2).toInt ≤ 59 by omega)) rfl
    refine lv_aload_n hx hb dX1_putEnding_64 rfl (lv_at hl 1 rfl) ?_
    have fx128 : V125 (kb + 50) = some (.inr (1, [.ref (kb + 51), .ref (kb + 52), .int (e_fd), .ref (kb + 53), .ref (kb + 55), .ref (kb + 57), .ref (qt), .ref (kb), .ref (kb + 5), .int (e_sz), .ref (kb + 59), .ref (kb + 60), .ref (kb + 61)])) := (o127 (kb + 50) (hq_tne hy0 hy1 (by simp))).trans (fx124)
    refine hp_get (v := .ref (kb + 52)) hx hb hts hown hZ fx128 fl_X1_18 rfl dX1_putEnding_65 ?_
    refine lv_iconst (v := -1) hx hb dX1_putEnding_68 (by decide) ?_
    refine hp_put hx hb hts hown hZ e126 fp_X1_117 rfl rfl (Nat.le_of_ble_eq_true rfl) dX1_putEnding_69 (fun V129 _ _ e130 o131 hZ => ?_)
    have e130 : V129 (kb + 52) = some (.inr (10, [.int (tz0), .int (tz1), .int (tz2), .int (tz3), .int (k), .int (-1), .int (-1)])) := e130
    have hP := hP.put hy1 e130 o131 (hq_c13 (show -1 ≤ (tz1).toInt ∧ (tz1).toInt ≤ 59 by omega) (show -1 ≤ (tz2).toInt ∧ (tz2).toInt ≤ 59 by omega)) rfl
    refine lv_aload_n hx hb dX1_putEnding_72 rfl (lv_at hl 1 rfl) ?_
    have fx132 : V129 (kb + 50) = some (.inr (1, [.ref (kb + 51), .ref (kb + 52), .int (e_fd), .ref (kb + 53), .ref (kb + 55), .ref (kb + 57), .ref (qt), .ref (kb), .ref (kb + 5), .int (e_sz), .ref (kb + 59), .ref (kb + 60), .ref (kb + 61)])) := (o131 (kb + 50) (hq_tne hy0 hy1 (by simp))).trans (fx128)
    refine hp_get (v := .ref (kb + 55)) hx hb hts hown hZ fx132 fl_X1_30 rfl dX1_putEnding_73 ?_
    refine lv_aload_n hx hb dX1_putEnding_76 rfl (lv_at hl 1 rfl) ?_
    refine hp_get (v := .ref (kb + 53)) hx hb hts hown hZ fx132 fl_X1_26 rfl dX1_putEnding_77 ?_
    have fx133 : V129 (kb + 55) = some (.inr (9, [.ref (kb + 55 + 1), .int (ez)])) := (o131 (kb + 55) (hq_tne hy4 hy1 (by simp))).trans ((o127 (kb + 55) (hq_tne hy4 hy1 (by simp))).trans ((o123 (kb + 55) (hq_tne hy4 hy1 (by simp))).trans (hc5)))
    have fx134 : V129 (kb + 56) = some (.inl (cs 0, 30, .inl (ef))) := (o131 (kb + 56) (hq_tne hy5 hy1 (by simp))).trans ((o127 (kb + 56) (hq_tne hy5 hy1 (by simp))).trans ((o123 (kb + 56) (hq_tne hy5 hy1 (by simp))).trans (hc6)))
    have fx135 : V129 (kb + 53) = some (.inr (9, [.ref (kb + 53 + 1), .int (sz)])) := (o131 (kb + 53) (hq_tne hy2 hy1 (by simp))).trans ((o127 (kb + 53) (hq_tne hy2 hy1 (by simp))).trans ((o123 (kb + 53) (hq_tne hy2 hy1 (by simp))).trans (hc3)))
    have fx136 : V129 (kb + 54) = some (.inl (cs 0, 30, .inl (sf_))) := (o131 (kb + 54) (hq_tne hy3 hy1 (by simp))).trans ((o127 (kb + 54) (hq_tne hy3 hy1 (by simp))).trans ((o123 (kb + 54) (hq_tne hy3 hy1 (by simp))).trans (hc4)))
    refine hp_callv (hp_runV (As := [.ref (kb + 53)]) (rest := []) hx hb hml hown hts (x_set l D cs B G V129 n hP.1 (kb + 55) (30) (kb + 53) (30) (ez) (ef) (sz) (sf_) hy4 hy5 hy3 fx133 fx134 fx135 fx136  (by omega) (by decide) (by decide) (by omega) (by omega)) hZ fx133 cv_X1_120 rfl rfl ⟨Nat.le_of_ble_eq_true rfl, Nat.le_of_ble_eq_true rfl⟩ rfl hl.1 rfl (Nat.le_of_ble_eq_true rfl) dX1_putEnding_80 ⟨(Nat.le_of_ble_eq_true rfl), (Nat.le_of_ble_eq_true rfl)⟩) hZ (fun V137 n138 _ _ hw139 hZ => ?_)
    obtain ⟨rfl, hq141, fr142, z143, u144, ho145, ho146, hp147, hp148⟩ := hw139
    have b149 := hq_rng z143
    have hP := hP.trans hq141 (fun _ h => Bool.noConfusion h)
    have hf150 := hq_rgB hP.1 hy5 ho146
    have hwd : sp_rp z143 u144 SU := ⟨by omega, fun k9 x9 hx9 => by have h9 := (List.getElem?_eq_some_iff.mp hx9).1; rw [hp148 k9 (by omega)]; exact hsu.2 k9 x9 hx9⟩
    have hwd1 := hwd.1
    refine lv_iload_n hx hb dX1_putEnding_83 rfl (lv_at hl 2 rfl) ?_
    refine lv_bipush (v := 60) hx hb dX1_putEnding_84 (by decide) ?_
    have hl151 : (60 : Int32).toInt = 60 := by decide
    refine lv_icmp_eq (tgt := 116) hx hb dX1_putEnding_86 (by decide) (fun c152 => absurd c152 ((fun h9 => absurd (congrArg Int32.toInt h9) (by omega) : ¬ k = 60))) (fun c152 => ?_)
    refine lv_iload_n hx hb dX1_putEnding_89 rfl (lv_at hl 0 rfl) ?_
    refine lv_iconst (v := -1) hx hb dX1_putEnding_90 (by decide) ?_
    refine lv_icmp_eq (tgt := 120) hx hb dX1_putEnding_91 (by decide) (fun c153 => ?_) (fun c153 => ?_)
    · have c153 : (tz2).toInt = (-1 : Int) := hq_eqi.mp c153
      refine lv_iconst (v := 0) hx hb dX1_putEnding_120 (by decide) ?_
      have hl154 : (0 : Int32).toInt = 0 := by decide
      have fx155 : V137 (kb + 52) = some (.inr (10, [.int (tz0), .int (tz1), .int (tz2), .int (tz3), .int (k), .int (-1), .int (-1)])) := (fr142 (kb + 52) (hq_tne hy1 hy4 (by simp)) (hq_tne hy1 hy5 (by simp))).trans (e130)
      have hl156 : (-1 : Int32).toInt = -1 := by decide
      have hl157 : (-1 : Int32).toInt = -1 := by decide
      exact hp_zret hx hb hr rfl hlocks hZ ⟨rfl, hP, (fun x8 hne0 hne1 hne2 => (fr142 x8 hne1 hne2).trans ((o131 x8 hne0).trans ((o127 x8 hne0).trans (o123 x8 hne0)))), k, -1, -1, z143, u144, fx155, ho145, ho146, Or.inr ⟨by omega, Or.inl ⟨by omega, by omega⟩⟩, by omega⟩ dX1_putEnding_121
    · have c153 : ¬ (tz2).toInt = (-1 : Int) := fun h9 => c153 (hq_eqi.mpr h9)
      refine lv_aload_n hx hb dX1_putEnding_94 rfl (lv_at hl 1 rfl) ?_
      have fx158 : V137 (kb + 50) = some (.inr (1, [.ref (kb + 51), .ref (kb + 52), .int (e_fd), .ref (kb + 53), .ref (kb + 55), .ref (kb + 57), .ref (qt), .ref (kb), .ref (kb + 5), .int (e_sz), .ref (kb + 59), .ref (kb + 60), .ref (kb + 61)])) := (fr142 (kb + 50) (hq_tne hy0 hy4 (by simp)) (hq_tne hy0 hy5 (by simp))).trans (fx132)
      refine hp_get (v := .ref (kb + 55)) hx hb hts hown hZ fx158 fl_X1_30 rfl dX1_putEnding_95 ?_
      refine lv_aload_n hx hb dX1_putEnding_98 rfl (lv_at hl 1 rfl) ?_
      refine hp_get (v := .ref (qt)) hx hb hts hown hZ fx158 fl_X1_50 rfl dX1_putEnding_99 ?_
      have fx159 : V137 (qt) = some (.inr (0, [.ref (qt + 1), .int (bc), .ref (qt + 14), .ref (qt + 75), .int (bv), .ref (qt + 76), .int (bl)])) := (fr142 (qt) (by omega) (by omega)).trans ((o131 (qt) (by omega)).trans ((o127 (qt) (by omega)).trans ((o123 (qt) (by omega)).trans (hc2))))
      refine hp_get (v := .ref (qt + 76)) hx hb hts hown hZ fx159 fl_X1_124 rfl dX1_putEnding_102 ?_
      refine lv_iload_n hx hb dX1_putEnding_105 rfl (lv_at hl 0 rfl) ?_
      have fx160 : V137 (qt + 76) = some (.inl (cs 6, 60, .inr (.inr (.inr (.inr (g3)))))) := (fr142 (qt + 76) (by omega) (by omega)).trans ((o131 (qt + 76) (by omega)).trans ((o127 (qt + 76) (by omega)).trans ((o123 (qt + 76) (by omega)).trans (hg3))))
      have hixla9 : 0 ≤ (tz2).toInt ∧ (tz2).toInt < (bk.2.2.2.length : Int) := by omega
      obtain ⟨la9, hla9⟩ : ∃ ta, ta = qt + 77 + 5 * (tz2).toNatClampNeg := ⟨_, rfl⟩
      have hiila9 : ((tz2).toNatClampNeg : Int) = (tz2).toInt := (hq_nn (by omega)).1.symm
      have hla91 : g3 (tz2).toNatClampNeg = some la9 := by rw [hla9]; exact hr3 _ (by omega)
      obtain ⟨xla9, hxla9⟩ : ∃ t, bk.2.2.2[(tz2).toNatClampNeg]? = some t := ⟨_, List.getElem?_eq_getElem (by omega)⟩
      have pk161 := hp0.keep (fun x7 (hx7 : qt + 77 ≤ x7 ∧ x7 < qt + 77 + 5 * bk.2.2.2.length) => (fr142 x7 (by omega) (by omega)).trans ((o131 x7 (by omega)).trans ((o127 x7 (by omega)).trans (o123 x7 (by omega)))))
      obtain ⟨ak, ao, at9, ap, ah, aht, apa, ala, ha1, ha2, ha3, ha4, ha5, ha6, ha7, hlt1, hlt2⟩ := (show hx_LN cs V137 la9 w xla9 by rw [hla9]; exact pk161.2 _ _ hxla9)
      obtain ⟨fz, ff, hfz1, hfz2, hfz3, hfz4, hfz5⟩ := hlt1.rp
      obtain ⟨sz, sf, hsz1, hsz2, hsz3, hsz4, hsz5⟩ := hlt2.rp
      have hfzl := hfz5.1
      have hszl := hsz5.1
      obtain ⟨hgl1, hgl2, hgl3⟩ := hgd.1 _ _ hxla9
      obtain ⟨hgm1, hgm2, hgm3, hgm4⟩ := hgd2 _ _ hxla9
      have hyl := hBT.2.2 (tz2).toNatClampNeg (by omega)
      rw [← hla9] at hyl
      have hfrf := hq_rgB hP.1 hyl.2.2.1 hfz2
      have hfrs := hq_rgB hP.1 hyl.2.2.2.2 hsz2
      have hfela9 := (show sp_rp fz ff (sp_F w xla9) from hfz5).1
      have hsela9 := (show sp_rp sz sf (sp_S2 w xla9) from hsz5).1
      refine hp_aald (v := .ref (la9)) hx hb hZ 6 fx160 rfl (hq_in (by omega) (by omega)) (by rw [hla91]; rfl) dX1_putEnding_106 ?_
      refine hp_get (v := .ref (la9 + 1)) hx hb hts hown hZ ha1 fl_X1_128 rfl dX1_putEnding_107 ?_
      refine hp_calli (hp_runV (As := [.ref (la9 + 1)]) (rest := []) hx hb hml hown hts (x_addA l D cs B G V137 n hP.1 (kb + 55) (30) (la9 + 1) (8) (z143) (u144) (SU) (fz) (ff) ((sp_F w xla9)) hy4 hy5 hyl.2.2.1 ho145 ho146 hfz1 hfz2  hwd hfz5 (by omega) (by omega) (by decide) (by decide) (by omega)) hZ ho145 cv_X1_133 rfl rfl ⟨Nat.le_of_ble_eq_true rfl, Nat.le_of_ble_eq_true rfl⟩ rfl hl.1 rfl (Nat.le_of_ble_eq_true rfl) dX1_putEnding_110 ⟨(Nat.le_of_ble_eq_true rfl), (Nat.le_of_ble_eq_true rfl)⟩) hZ (fun r165 V162 n163 _ _ hw164 hZ => ?_)
      obtain ⟨rfl, hq166, fr167, z168, u169, ho170, ho171, hp172, hp173⟩ := hw164
      have b174 := hq_rng z168
      have hP := hP.trans hq166 (fun _ h => Bool.noConfusion h)
      have hf175 := hq_rgB hP.1 hy5 ho171
      have b176 := hq_rng r165
      have hap : sp_rp z168 u169 (SU ++ sp_F w xla9) := by rcases hp172 with g9 | g9; (· exact g9.2.2); (· exfalso; have g8 := g9.1; omega)
      have hapr : (r165).toInt = 1 := by rcases hp172 with g9 | g9; (· exact g9.2.1); (· exfalso; have g8 := g9.1; omega)
      have b177 := hp173
      have hl178 : (0 : Int32).toInt = 0 := by decide
      refine lv_if_eq (tgt := 120) hx hb dX1_putEnding_113 (by decide) (fun c179 => absurd c179 ((fun h9 => absurd (congrArg Int32.toInt h9) (by omega) : ¬ r165 = 0))) (fun c179 => ?_)
      refine lv_iconst (v := 1) hx hb dX1_putEnding_116 (by decide) ?_
      refine lv_goto (tgt := 121) hx hb dX1_putEnding_117 (by decide) ?_
      have hl180 : (1 : Int32).toInt = 1 := by decide
      have fx181 : V162 (kb + 52) = some (.inr (10, [.int (tz0), .int (tz1), .int (tz2), .int (tz3), .int (k), .int (-1), .int (-1)])) := (fr167 (kb + 52) (hq_tne hy1 hy4 (by simp)) (hq_tne hy1 hy5 (by simp))).trans ((fr142 (kb + 52) (hq_tne hy1 hy4 (by simp)) (hq_tne hy1 hy5 (by simp))).trans (e130))
      have hl182 : (-1 : Int32).toInt = -1 := by decide
      have hl183 : (-1 : Int32).toInt = -1 := by decide
      exact hp_zret hx hb hr rfl hlocks hZ ⟨rfl, hP, (fun x8 hne0 hne1 hne2 => (fr167 x8 hne1 hne2).trans ((fr142 x8 hne1 hne2).trans ((o131 x8 hne0).trans ((o127 x8 hne0).trans (o123 x8 hne0))))), k, -1, -1, z168, u169, fx181, ho170, ho171, Or.inl ⟨by omega, Or.inl ⟨by omega, by omega⟩, fun h9 h8 => by omega, by omega, ⟨by omega, by omega⟩, (by rw [show sp_ye tz2.toInt k.toInt = tz2.toInt from if_pos (by omega), sp_end_y (by omega) hxla9]; exact hap)⟩, by omega⟩ dX1_putEnding_121

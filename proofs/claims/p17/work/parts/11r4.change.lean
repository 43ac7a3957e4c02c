set_option maxHeartbeats 4000000 in
set_option maxRecDepth 100000 in
theorem y_change (l : Launch) (D : va_G) (cs : Nat → ClassId) (B : Nat) (G : hq_G) (V : hp_V) (n : Nat) (hI : hq_I cs G V) (q : Nat) (mo : Nat) (T : List sp_C3) (m_tp : Int32) (m_sz : Int32) (m_fr : Int32) (m_bh : Int32) (m_hd : Int32) (m_ft : Int32) (m_fa : Int32) (m_le : Int32) (m_fo : Int32) (m_as : Int32) (m_fd : Int32) (m_bc : Int32) (m_bg : Int32) (m_bs : Int32) (m_be : Int32) (m_b0 : Int32) (m_b1 : Int32) (m_cm : Int32) (m_hc : Int32) (k : Int32) (wh : Nat → Int32) (mi : Nat → Int32) (ta : Nat → Int32) (hc0 : V (mo) = some (.inr (13, hm_o q (m_tp) (m_sz) (m_fr) (m_bh) (m_hd) (m_ft) (m_fa) (m_le) (m_fo) (m_as) (m_fd) (m_bc) (m_bg) (m_bs) (m_be) (m_b0) (m_b1) (m_cm) (m_hc)))) (hc1 : V (q + 44) = some (.inl (cs 1, 2, .inl (wh)))) (hc2 : V (q + 45) = some (.inl (cs 1, 2, .inl (mi)))) (hc3 : V (q + 46) = some (.inl (cs 1, 2, .inl (ta)))) (hR : hq_RT G q) (hmo : G mo = some (24, 0, 0, 0)) (hhc : 0 ≤ m_hc.toInt ∧ m_hc.toInt ≤ 1) (hT : m_hc.toInt = 1 → sp_hl m_cm wh mi ta T ∧ 1 ≤ T.length ∧ T.length ≤ 2) : hp_M l yX13_change cX13_change 2 (some .int) ({ frames := 2, cells := 0, slots := 0, locals := 46 }) D cs B V n [.ref (mo), .int (k)] (hp_QI D cs B (fun r V' n' => n = n' ∧ V = V' ∧ ((m_hc.toInt = 0 ∧ r.toInt = -9) ∨ (m_hc.toInt = 1 ∧ r.toInt = sp_cha T k.toInt)))) 0 0 := by
  refine hp_walk (R0 := RX13) (by decide) rfl ?_ (Nat.le_of_ble_eq_true rfl)
  intro p e s m below meth c ls hx hb hr hts hown hlocks hin hml hZ hl
  have hP : hq_I cs G V := hI
  have hl : lv_has ls 2 [(0, .ref (mo)), (1, .int (k))] := hl
  have hb_m_tp := hq_rng m_tp
  have hb_m_sz := hq_rng m_sz
  have hb_m_fr := hq_rng m_fr
  have hb_m_bh := hq_rng m_bh
  have hb_m_hd := hq_rng m_hd
  have hb_m_ft := hq_rng m_ft
  have hb_m_fa := hq_rng m_fa
  have hb_m_le := hq_rng m_le
  have hb_m_fo := hq_rng m_fo
  have hb_m_as := hq_rng m_as
  have hb_m_fd := hq_rng m_fd
  have hb_m_bc := hq_rng m_bc
  have hb_m_bg := hq_rng m_bg
  have hb_m_bs := hq_rng m_bs
  have hb_m_be := hq_rng m_be
  have hb_m_b0 := hq_rng m_b0
  have hb_m_b1 := hq_rng m_b1
  have hb_m_cm := hq_rng m_cm
  have hb_m_hc := hq_rng m_hc
  have hb_k := hq_rng k
  have hf1 := hq_rg hI (hr_44 hR) hc1
  have hf2 := hq_rg hI (hr_45 hR) hc2
  have hf3 := hq_rg hI (hr_46 hR) hc3
  have hL0 : (0 : Int64).toInt = 0 := by decide
  have hL1 : (1 : Int64).toInt = 1 := by decide
  have hL4 : (4 : Int64).toInt = 4 := by decide
  have hL5 : (5 : Int64).toInt = 5 := by decide
  have hL7 : (7 : Int64).toInt = 7 := by decide
  have hL9 : (9 : Int64).toInt = 9 := by decide
  have hL10 : (10 : Int64).toInt = 10 := by decide
  have hL19 : (19 : Int64).toInt = 19 := by decide
  have hL20 : (20 : Int64).toInt = 20 := by decide
  have hL29 : (29 : Int64).toInt = 29 := by decide
  have hL30 : (30 : Int64).toInt = 30 := by decide
  refine lv_aload_n hx hb dX13_change_0 rfl (lv_at hl 0 rfl) ?_
  refine hp_get (v := .int (m_hc)) hx hb hts hown hZ hc0 fl_X13_313 rfl dX13_change_1 ?_
  refine lv_if_ne (tgt := 10) hx hb dX13_change_4 (by decide) (fun c4 => ?_) (fun c4 => ?_)
  · have c4 : ¬ (m_hc).toInt = (0 : Int) := fun h9 => c4 (hq_eqi.mpr h9)
    obtain ⟨hT2, hT3, hT4⟩ := hT (by omega)
    have hT1 := hT2.1
    refine lv_iload_n hx hb dX13_change_10 rfl (lv_at hl 1 rfl) ?_
    refine lv_if_ne (tgt := 19) hx hb dX13_change_11 (by decide) (fun c5 => ?_) (fun c5 => ?_)
    · have c5 : ¬ (k).toInt = (0 : Int) := fun h9 => c5 (hq_eqi.mpr h9)
      refine lv_iload_n hx hb dX13_change_19 rfl (lv_at hl 1 rfl) ?_
      refine lv_i2l (v := (k).toInt64) hx hb dX13_change_20 rfl ?_
      refine lv_topl (fun y6 ey7 => ?_)
      have b8 : (y6).toInt = (k).toInt := by rw [ey7]; exact hm_i2l _
      refine lv_ldc2 (v := 10) hx hb hown (hts _ k64_X13_320) dX13_change_21 ?_
      refine lv_ldc2 (v := 9) hx hb hown (hts _ k64_X13_322) dX13_change_24 ?_
      refine lv_aload_n hx hb dX13_change_27 rfl (lv_at hl 0 rfl) ?_
      refine hp_get (v := .int (m_cm)) hx hb hts hown hZ hc0 fl_X13_445 rfl dX13_change_28 ?_
      refine lv_i2l (v := (m_cm).toInt64) hx hb dX13_change_31 rfl ?_
      refine lv_topl (fun y9 ey10 => ?_)
      have b11 : (y9).toInt = (m_cm).toInt := by rw [ey10]; exact hm_i2l _
      refine lv_ladd hx hb dX13_change_32 ?_
      refine lv_topl (fun y12 ey13 => ?_)
      have b15 : (9 : Int64).toInt = 9 := by decide
      have b14 : (y12).toInt = (9 : Int) + (y9).toInt := by rw [ey13]; exact hm_ladd _ _ (by omega) (by omega)
      refine hp_calli (hp_runS (As := [.long (y6), .long (10), .long (y12)]) (rest := []) hx hb hml hown hts (y_in l D cs B G V n hP (y6) (10) (y12)    ) hZ cv_X13_301 rfl rfl ⟨Nat.le_of_ble_eq_true rfl, Nat.le_of_ble_eq_true rfl⟩ rfl hl.1 rfl (Nat.le_of_ble_eq_true rfl) dX13_change_33 ⟨(Nat.le_of_ble_eq_true rfl), (Nat.le_of_ble_eq_true rfl)⟩) hZ (fun r19 V16 n17 _ _ hw18 hZ => ?_)
      obtain ⟨rfl, rfl, hp22⟩ := hw18
      have b23 := hq_rng r19
      refine lv_if_eq (tgt := 49) hx hb dX13_change_36 (by decide) (fun c24 => ?_) (fun c24 => ?_)
      · have c24 : (r19).toInt = (0 : Int) := hq_eqi.mp c24
        refine lv_iload_n hx hb dX13_change_49 rfl (lv_at hl 1 rfl) ?_
        refine lv_i2l (v := (k).toInt64) hx hb dX13_change_50 rfl ?_
        refine lv_topl (fun y25 ey26 => ?_)
        have b27 : (y25).toInt = (k).toInt := by rw [ey26]; exact hm_i2l _
        refine lv_ldc2 (v := 20) hx hb hown (hts _ k64_X13_477) dX13_change_51 ?_
        refine lv_ldc2 (v := 19) hx hb hown (hts _ k64_X13_479) dX13_change_54 ?_
        refine lv_aload_n hx hb dX13_change_57 rfl (lv_at hl 0 rfl) ?_
        refine hp_get (v := .int (m_cm)) hx hb hts hown hZ hc0 fl_X13_445 rfl dX13_change_58 ?_
        refine lv_i2l (v := (m_cm).toInt64) hx hb dX13_change_61 rfl ?_
        refine lv_topl (fun y28 ey29 => ?_)
        have b30 : (y28).toInt = (m_cm).toInt := by rw [ey29]; exact hm_i2l _
        refine lv_ladd hx hb dX13_change_62 ?_
        refine lv_topl (fun y31 ey32 => ?_)
        have b34 : (19 : Int64).toInt = 19 := by decide
        have b33 : (y31).toInt = (19 : Int) + (y28).toInt := by rw [ey32]; exact hm_ladd _ _ (by omega) (by omega)
        refine hp_calli (hp_runS (As := [.long (y25), .long (20), .long (y31)]) (rest := []) hx hb hml hown hts (y_in l D cs B G V n hP (y25) (20) (y31)    ) hZ cv_X13_301 rfl rfl ⟨Nat.le_of_ble_eq_true rfl, Nat.le_of_ble_eq_true rfl⟩ rfl hl.1 rfl (Nat.le_of_ble_eq_true rfl) dX13_change_63 ⟨(Nat.le_of_ble_eq_true rfl), (Nat.le_of_ble_eq_true rfl)⟩) hZ (fun r38 V35 n36 _ _ hw37 hZ => ?_)
        obtain ⟨rfl, rfl, hp41⟩ := hw37
        have b42 := hq_rng r38
        refine lv_if_eq (tgt := 79) hx hb dX13_change_66 (by decide) (fun c43 => ?_) (fun c43 => ?_)
        · have c43 : (r38).toInt = (0 : Int) := hq_eqi.mp c43
          refine lv_iload_n hx hb dX13_change_79 rfl (lv_at hl 1 rfl) ?_
          refine lv_i2l (v := (k).toInt64) hx hb dX13_change_80 rfl ?_
          refine lv_topl (fun y44 ey45 => ?_)
          have b46 : (y44).toInt = (k).toInt := by rw [ey45]; exact hm_i2l _
          refine lv_ldc2 (v := 30) hx hb hown (hts _ k64_X13_481) dX13_change_81 ?_
          refine lv_ldc2 (v := 29) hx hb hown (hts _ k64_X13_483) dX13_change_84 ?_
          refine lv_aload_n hx hb dX13_change_87 rfl (lv_at hl 0 rfl) ?_
          refine hp_get (v := .int (m_cm)) hx hb hts hown hZ hc0 fl_X13_445 rfl dX13_change_88 ?_
          refine lv_i2l (v := (m_cm).toInt64) hx hb dX13_change_91 rfl ?_
          refine lv_topl (fun y47 ey48 => ?_)
          have b49 : (y47).toInt = (m_cm).toInt := by rw [ey48]; exact hm_i2l _
          refine lv_ladd hx hb dX13_change_92 ?_
          refine lv_topl (fun y50 ey51 => ?_)
          have b53 : (29 : Int64).toInt = 29 := by decide
          have b52 : (y50).toInt = (29 : Int) + (y47).toInt := by rw [ey51]; exact hm_ladd _ _ (by omega) (by omega)
          refine hp_calli (hp_runS (As := [.long (y44), .long (30), .long (y50)]) (rest := []) hx hb hml hown hts (y_in l D cs B G V n hP (y44) (30) (y50)    ) hZ cv_X13_301 rfl rfl ⟨Nat.le_of_ble_eq_true rfl, Nat.le_of_ble_eq_true rfl⟩ rfl hl.1 rfl (Nat.le_of_ble_eq_true rfl) dX13_change_93 ⟨(Nat.le_of_ble_eq_true rfl), (Nat.le_of_ble_eq_true rfl)⟩) hZ (fun r57 V54 n55 _ _ hw56 hZ => ?_)
          obtain ⟨rfl, rfl, hp60⟩ := hw56
          have b61 := hq_rng r57
          refine lv_if_eq (tgt := 111) hx hb dX13_change_96 (by decide) (fun c62 => ?_) (fun c62 => ?_)
          · have c62 : (r57).toInt = (0 : Int) := hq_eqi.mp c62
            refine lv_bipush (v := -9) hx hb dX13_change_111 (by decide) ?_
            have hl63 : (-9 : Int32).toInt = -9 := by decide
            have hl9 : (-9 : Int32).toInt = -9 := by decide
            exact hp_iret hx hb hr hlocks hZ ⟨rfl, rfl, Or.inr ⟨by omega, by rw [sp_cha_n (T := T) (by omega) (by omega) (by omega) (by omega)]; omega⟩⟩ dX13_change_113
          · have c62 : ¬ (r57).toInt = (0 : Int) := fun h9 => c62 (hq_eqi.mpr h9)
            refine lv_aload_n hx hb dX13_change_99 rfl (lv_at hl 0 rfl) ?_
            refine hp_get (v := .ref (q + 46)) hx hb hts hown hZ hc0 fl_X13_289 rfl dX13_change_100 ?_
            refine lv_iload_n hx hb dX13_change_103 rfl (lv_at hl 1 rfl) ?_
            refine lv_bipush (v := 30) hx hb dX13_change_104 (by decide) ?_
            refine lv_isub hx hb dX13_change_106 ?_
            refine lv_topi (fun y64 ey65 => ?_)
            obtain ⟨k66, hk67, b68, b69⟩ := hq_sub (k) (30)
            rw [← ey65] at hk67 b68 b69
            have hk67 : (y64).toInt = (k).toInt - (30 : Int) + k66 * 4294967296 := hk67
            obtain rfl : k66 = 0 := by omega
            have hin9 := (hq_nn (z := y64) (by omega)).1
            refine hp_iald hx hb hZ hc3 (hq_in (by omega) (by omega)) dX13_change_107 ?_
            refine lv_topi (fun y70 ey71 => ?_)
            have b72 := hq_rng y70
            refine lv_goto (tgt := 113) hx hb dX13_change_108 (by decide) ?_
            exact hp_iret hx hb hr hlocks hZ ⟨rfl, rfl, Or.inr ⟨by omega, by have h9 := hT2.nth (i := (y64 : Int32).toNatClampNeg) (by omega); rw [sp_cha_3 (by omega) (by omega) (show T[(k.toInt - 30).toNat]? = some _ by rw [show (k.toInt - 30).toNat = (y64 : Int32).toNatClampNeg by omega]; exact h9), ey71]⟩⟩ dX13_change_113
        · have c43 : ¬ (r38).toInt = (0 : Int) := fun h9 => c43 (hq_eqi.mpr h9)
          refine lv_aload_n hx hb dX13_change_69 rfl (lv_at hl 0 rfl) ?_
          refine hp_get (v := .ref (q + 45)) hx hb hts hown hZ hc0 fl_X13_286 rfl dX13_change_70 ?_
          refine lv_iload_n hx hb dX13_change_73 rfl (lv_at hl 1 rfl) ?_
          refine lv_bipush (v := 20) hx hb dX13_change_74 (by decide) ?_
          refine lv_isub hx hb dX13_change_76 ?_
          refine lv_topi (fun y73 ey74 => ?_)
          obtain ⟨k75, hk76, b77, b78⟩ := hq_sub (k) (20)
          rw [← ey74] at hk76 b77 b78
          have hk76 : (y73).toInt = (k).toInt - (20 : Int) + k75 * 4294967296 := hk76
          obtain rfl : k75 = 0 := by omega
          have hin9 := (hq_nn (z := y73) (by omega)).1
          refine hp_iald hx hb hZ hc2 (hq_in (by omega) (by omega)) dX13_change_77 ?_
          refine lv_topi (fun y79 ey80 => ?_)
          have b81 : hq_ir (hq_lo 5) (hq_hi 5) y79 := by rw [ey80]; exact hf2 _ (hq_ix (by omega) (by omega))
          have b81 : (-1) ≤ (y79).toInt ∧ (y79).toInt ≤ 59 := b81
          exact hp_iret hx hb hr hlocks hZ ⟨rfl, rfl, Or.inr ⟨by omega, by have h9 := hT2.nth (i := (y73 : Int32).toNatClampNeg) (by omega); rw [sp_cha_2 (by omega) (by omega) (show T[(k.toInt - 20).toNat]? = some _ by rw [show (k.toInt - 20).toNat = (y73 : Int32).toNatClampNeg by omega]; exact h9), ey80]⟩⟩ dX13_change_78
      · have c24 : ¬ (r19).toInt = (0 : Int) := fun h9 => c24 (hq_eqi.mpr h9)
        refine lv_aload_n hx hb dX13_change_39 rfl (lv_at hl 0 rfl) ?_
        refine hp_get (v := .ref (q + 44)) hx hb hts hown hZ hc0 fl_X13_283 rfl dX13_change_40 ?_
        refine lv_iload_n hx hb dX13_change_43 rfl (lv_at hl 1 rfl) ?_
        refine lv_bipush (v := 10) hx hb dX13_change_44 (by decide) ?_
        refine lv_isub hx hb dX13_change_46 ?_
        refine lv_topi (fun y82 ey83 => ?_)
        obtain ⟨k84, hk85, b86, b87⟩ := hq_sub (k) (10)
        rw [← ey83] at hk85 b86 b87
        have hk85 : (y82).toInt = (k).toInt - (10 : Int) + k84 * 4294967296 := hk85
        obtain rfl : k84 = 0 := by omega
        have hin9 := (hq_nn (z := y82) (by omega)).1
        refine hp_iald hx hb hZ hc1 (hq_in (by omega) (by omega)) dX13_change_47 ?_
        refine lv_topi (fun y88 ey89 => ?_)
        have b90 := hq_rng y88
        exact hp_iret hx hb hr hlocks hZ ⟨rfl, rfl, Or.inr ⟨by omega, by have h9 := hT2.nth (i := (y82 : Int32).toNatClampNeg) (by omega); rw [sp_cha_1 (by omega) (show T[(k.toInt - 10).toNat]? = some _ by rw [show (k.toInt - 10).toNat = (y82 : Int32).toNatClampNeg by omega]; exact h9), ey89]⟩⟩ dX13_change_48
    · have c5 : (k).toInt = (0 : Int) := hq_eqi.mp c5
      refine lv_aload_n hx hb dX13_change_14 rfl (lv_at hl 0 rfl) ?_
      refine hp_get (v := .int (m_cm)) hx hb hts hown hZ hc0 fl_X13_445 rfl dX13_change_15 ?_
      exact hp_iret hx hb hr hlocks hZ ⟨rfl, rfl, Or.inr ⟨by omega, by rw [sp_cha_0 (T := T) (by omega) (by omega)]; omega⟩⟩ dX13_change_18
  · have c4 : (m_hc).toInt = (0 : Int) := hq_eqi.mp c4
    refine lv_bipush (v := -9) hx hb dX13_change_7 (by decide) ?_
    have hl91 : (-9 : Int32).toInt = -9 := by decide
    have hl9 : (-9 : Int32).toInt = -9 := by decide
    exact hp_iret hx hb hr hlocks hZ ⟨rfl, rfl, Or.inl ⟨by omega, by omega⟩⟩ dX13_change_9

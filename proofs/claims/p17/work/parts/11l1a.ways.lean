set_option maxHeartbeats 4000000 in
set_option maxRecDepth 100000 in
theorem x_cost (l : Launch) (D : va_G) (cs : Nat → ClassId) (B : Nat) (G : hq_G) (V : hp_V) (n : Nat) (hI : hq_I cs G V) (a : Nat) (ww0 : Int32) (ww1 : Int32) (ww2 : Int32) (ww3 : Int32) (ww4 : Int32) (ww5 : Int32) (ww6 : Int32) (hc0 : V (a) = some (.inr (10, [.int (ww0), .int (ww1), .int (ww2), .int (ww3), .int (ww4), .int (ww5), .int (ww6)]))) : hp_M l yX10_cost cX10_cost 1 (some .int) ({ frames := 1, cells := 0, slots := 0, locals := 21 }) D cs B V n [.ref (a)] (hp_QI D cs B (fun r V' n' => n = n' ∧ V = V' ∧ (r.toInt = sp_wc ww0.toInt ww3.toInt ww4.toInt ww5.toInt ww6.toInt))) 0 0 := by
  refine hp_walk (R0 := RX10) (by decide) rfl ?_ (Nat.le_of_ble_eq_true rfl)
  intro p e s m below meth c ls hx hb hr hts hown hlocks hin hml hZ hl
  have hP : hq_I cs G V := hI
  have hl : lv_has ls 1 [(0, .ref (a))] := hl
  have hb_ww0 := hq_rng ww0
  have hb_ww1 := hq_rng ww1
  have hb_ww2 := hq_rng ww2
  have hb_ww3 := hq_rng ww3
  have hb_ww4 := hq_rng ww4
  have hb_ww5 := hq_rng ww5
  have hb_ww6 := hq_rng ww6
  have jn13 : ∀ (V9 : hp_V) (H9 : Heap) (locs9 : List Loc) (ls : Array Slot)  (tt0 : Int32), hp_Z D cs B s V9 H9 n locs9 → hq_I cs G V9 → V = V9 → (sp_i2 ww0.toInt (-1) 2 tt0.toInt) → 0 ≤ tt0.toInt ∧ tt0.toInt ≤ 4 → lv_has ls 1 [(0, .ref (a))] → W p l e ({ frames := 1, cells := 0, slots := 0, locals := 21 }) s m ([.ref (a)] : List Value).toArray below meth c H9 locs9 0 0 (MQ below (hp_QI D cs B (fun r V' n' => n = n' ∧ V = V' ∧ (r.toInt = sp_wc ww0.toInt ww3.toInt ww4.toInt ww5.toInt ww6.toInt))) ([.ref (a)] : List Value).toArray s 0 0 (hp_F B)) (F0 m 13 ls [.int (tt0)]) := by
    intro V9 H9 locs9 ls  tt0  hZ hP  fr13  hi0 hv1 hl
    have hb_tt0 := hq_rng tt0
    subst fr13
    have jn40 : ∀ (V9 : hp_V) (H9 : Heap) (locs9 : List Loc) (ls : Array Slot)  (tt1 : Int32), hp_Z D cs B s V9 H9 n locs9 → hq_I cs G V9 → V = V9 → (sp_i3 ww3.toInt (-2) 0 (-1) 2 3 (tt1.toInt - tt0.toInt)) → 0 ≤ tt1.toInt ∧ tt1.toInt ≤ 8 → lv_has ls 1 [(0, .ref (a))] → W p l e ({ frames := 1, cells := 0, slots := 0, locals := 21 }) s m ([.ref (a)] : List Value).toArray below meth c H9 locs9 0 0 (MQ below (hp_QI D cs B (fun r V' n' => n = n' ∧ V = V' ∧ (r.toInt = sp_wc ww0.toInt ww3.toInt ww4.toInt ww5.toInt ww6.toInt))) ([.ref (a)] : List Value).toArray s 0 0 (hp_F B)) (F0 m 40 ls [.int (tt1)]) := by
      intro V9 H9 locs9 ls  tt1  hZ hP  fr40  hi1 hv2 hl
      have hb_tt1 := hq_rng tt1
      subst fr40
      have jn68 : ∀ (V9 : hp_V) (H9 : Heap) (locs9 : List Loc) (ls : Array Slot)  (tt2 : Int32), hp_Z D cs B s V9 H9 n locs9 → hq_I cs G V9 → V = V9 → (sp_i3 ww4.toInt (-2) 0 60 4 3 (tt2.toInt - tt1.toInt)) → 0 ≤ tt2.toInt ∧ tt2.toInt ≤ 12 → lv_has ls 1 [(0, .ref (a))] → W p l e ({ frames := 1, cells := 0, slots := 0, locals := 21 }) s m ([.ref (a)] : List Value).toArray below meth c H9 locs9 0 0 (MQ below (hp_QI D cs B (fun r V' n' => n = n' ∧ V = V' ∧ (r.toInt = sp_wc ww0.toInt ww3.toInt ww4.toInt ww5.toInt ww6.toInt))) ([.ref (a)] : List Value).toArray s 0 0 (hp_F B)) (F0 m 68 ls [.int (tt2)]) := by
        intro V9 H9 locs9 ls  tt2  hZ hP  fr68  hi2 hv3 hl
        have hb_tt2 := hq_rng tt2
        subst fr68
        have jn82 : ∀ (V9 : hp_V) (H9 : Heap) (locs9 : List Loc) (ls : Array Slot)  (tt3 : Int32), hp_Z D cs B s V9 H9 n locs9 → hq_I cs G V9 → V = V9 → (sp_i2 ww5.toInt (-1) 2 (tt3.toInt - tt2.toInt)) → 0 ≤ tt3.toInt ∧ tt3.toInt ≤ 16 → lv_has ls 1 [(0, .ref (a))] → W p l e ({ frames := 1, cells := 0, slots := 0, locals := 21 }) s m ([.ref (a)] : List Value).toArray below meth c H9 locs9 0 0 (MQ below (hp_QI D cs B (fun r V' n' => n = n' ∧ V = V' ∧ (r.toInt = sp_wc ww0.toInt ww3.toInt ww4.toInt ww5.toInt ww6.toInt))) ([.ref (a)] : List Value).toArray s 0 0 (hp_F B)) (F0 m 82 ls [.int (tt3)]) := by
          intro V9 H9 locs9 ls  tt3  hZ hP  fr82  hi3 hv4 hl
          have hb_tt3 := hq_rng tt3
          subst fr82
          have jn96 : ∀ (V9 : hp_V) (H9 : Heap) (locs9 : List Loc) (ls : Array Slot)  (tt4 : Int32), hp_Z D cs B s V9 H9 n locs9 → hq_I cs G V9 → V = V9 → (sp_i2 ww6.toInt (-1) 2 (tt4.toInt - tt3.toInt)) → 0 ≤ tt4.toInt ∧ tt4.toInt ≤ 20 → lv_has ls 1 [(0, .ref (a))] → W p l e ({ frames := 1, cells := 0, slots := 0, locals := 21 }) s m ([.ref (a)] : List Value).toArray below meth c H9 locs9 0 0 (MQ below (hp_QI D cs B (fun r V' n' => n = n' ∧ V = V' ∧ (r.toInt = sp_wc ww0.toInt ww3.toInt ww4.toInt ww5.toInt ww6.toInt))) ([.ref (a)] : List Value).toArray s 0 0 (hp_F B)) (F0 m 96 ls [.int (tt4)]) := by
            intro V9 H9 locs9 ls  tt4  hZ hP  fr96  hi4 hv5 hl
            have hb_tt4 := hq_rng tt4
            subst fr96
            exact hp_iret hx hb hr hlocks hZ ⟨rfl, rfl, sp_wc_eq hi0 hi1 hi2 hi3 hi4 (by omega)⟩ dX10_cost_96
          refine lv_aload_n hx hb dX10_cost_82 rfl (lv_at hl 0 rfl) ?_
          refine hp_get (v := .int (ww6)) hx hb hts hown hZ hc0 fl_X10_30 rfl dX10_cost_83 ?_
          refine lv_iconst (v := -1) hx hb dX10_cost_86 (by decide) ?_
          refine lv_icmp_ne (tgt := 94) hx hb dX10_cost_87 (by decide) (fun c6 => ?_) (fun c6 => ?_)
          · have c6 : ¬ (ww6).toInt = (-1 : Int) := fun h9 => c6 (hq_eqi.mpr h9)
            refine lv_iconst (v := 2) hx hb dX10_cost_94 (by decide) ?_
            refine lv_iadd hx hb dX10_cost_95 ?_
            refine lv_topi (fun y7 ey8 => ?_)
            obtain ⟨k9, hk10, b11, b12⟩ := hq_add (tt3) (2)
            rw [← ey8] at hk10 b11 b12
            have hk10 : (y7).toInt = (tt3).toInt + (2 : Int) + k9 * 4294967296 := hk10
            obtain rfl : k9 = 0 := by omega
            exact jn96 _ _ _ ls  (y7) hZ hP rfl (by unfold sp_i2; omega) (by omega) (lv_sub hl [0] rfl)
          · have c6 : (ww6).toInt = (-1 : Int) := hq_eqi.mp c6
            refine lv_iconst (v := 0) hx hb dX10_cost_90 (by decide) ?_
            refine lv_goto (tgt := 95) hx hb dX10_cost_91 (by decide) ?_
            refine lv_iadd hx hb dX10_cost_95 ?_
            refine lv_topi (fun y13 ey14 => ?_)
            obtain ⟨k15, hk16, b17, b18⟩ := hq_add (tt3) (0)
            rw [← ey14] at hk16 b17 b18
            have hk16 : (y13).toInt = (tt3).toInt + (0 : Int) + k15 * 4294967296 := hk16
            obtain rfl : k15 = 0 := by omega
            exact jn96 _ _ _ ls  (y13) hZ hP rfl (by unfold sp_i2; omega) (by omega) (lv_sub hl [0] rfl)
        refine lv_aload_n hx hb dX10_cost_68 rfl (lv_at hl 0 rfl) ?_
        refine hp_get (v := .int (ww5)) hx hb hts hown hZ hc0 fl_X10_27 rfl dX10_cost_69 ?_
        refine lv_iconst (v := -1) hx hb dX10_cost_72 (by decide) ?_
        refine lv_icmp_ne (tgt := 80) hx hb dX10_cost_73 (by decide) (fun c19 => ?_) (fun c19 => ?_)
        · have c19 : ¬ (ww5).toInt = (-1 : Int) := fun h9 => c19 (hq_eqi.mpr h9)
          refine lv_iconst (v := 2) hx hb dX10_cost_80 (by decide) ?_
          refine lv_iadd hx hb dX10_cost_81 ?_
          refine lv_topi (fun y20 ey21 => ?_)
          obtain ⟨k22, hk23, b24, b25⟩ := hq_add (tt2) (2)
          rw [← ey21] at hk23 b24 b25
          have hk23 : (y20).toInt = (tt2).toInt + (2 : Int) + k22 * 4294967296 := hk23
          obtain rfl : k22 = 0 := by omega
          exact jn82 _ _ _ ls  (y20) hZ hP rfl (by unfold sp_i2; omega) (by omega) (lv_sub hl [0] rfl)
        · have c19 : (ww5).toInt = (-1 : Int) := hq_eqi.mp c19
          refine lv_iconst (v := 0) hx hb dX10_cost_76 (by decide) ?_
          refine lv_goto (tgt := 81) hx hb dX10_cost_77 (by decide) ?_
          refine lv_iadd hx hb dX10_cost_81 ?_
          refine lv_topi (fun y26 ey27 => ?_)
          obtain ⟨k28, hk29, b30, b31⟩ := hq_add (tt2) (0)
          rw [← ey27] at hk29 b30 b31
          have hk29 : (y26).toInt = (tt2).toInt + (0 : Int) + k28 * 4294967296 := hk29
          obtain rfl : k28 = 0 := by omega
          exact jn82 _ _ _ ls  (y26) hZ hP rfl (by unfold sp_i2; omega) (by omega) (lv_sub hl [0] rfl)
      refine lv_aload_n hx hb dX10_cost_40 rfl (lv_at hl 0 rfl) ?_
      refine hp_get (v := .int (ww4)) hx hb hts hown hZ hc0 fl_X10_24 rfl dX10_cost_41 ?_
      refine lv_bipush (v := -2) hx hb dX10_cost_44 (by decide) ?_
      refine lv_icmp_ne (tgt := 53) hx hb dX10_cost_46 (by decide) (fun c32 => ?_) (fun c32 => ?_)
      · have c32 : ¬ (ww4).toInt = (-2 : Int) := fun h9 => c32 (hq_eqi.mpr h9)
        refine lv_aload_n hx hb dX10_cost_53 rfl (lv_at hl 0 rfl) ?_
        refine hp_get (v := .int (ww4)) hx hb hts hown hZ hc0 fl_X10_24 rfl dX10_cost_54 ?_
        refine lv_bipush (v := 60) hx hb dX10_cost_57 (by decide) ?_
        refine lv_icmp_ne (tgt := 66) hx hb dX10_cost_59 (by decide) (fun c33 => ?_) (fun c33 => ?_)
        · have c33 : ¬ (ww4).toInt = (60 : Int) := fun h9 => c33 (hq_eqi.mpr h9)
          refine lv_iconst (v := 3) hx hb dX10_cost_66 (by decide) ?_
          refine lv_iadd hx hb dX10_cost_67 ?_
          refine lv_topi (fun y34 ey35 => ?_)
          obtain ⟨k36, hk37, b38, b39⟩ := hq_add (tt1) (3)
          rw [← ey35] at hk37 b38 b39
          have hk37 : (y34).toInt = (tt1).toInt + (3 : Int) + k36 * 4294967296 := hk37
          obtain rfl : k36 = 0 := by omega
          exact jn68 _ _ _ ls  (y34) hZ hP rfl (by unfold sp_i3; omega) (by omega) (lv_sub hl [0] rfl)
        · have c33 : (ww4).toInt = (60 : Int) := hq_eqi.mp c33
          refine lv_iconst (v := 4) hx hb dX10_cost_62 (by decide) ?_
          refine lv_goto (tgt := 67) hx hb dX10_cost_63 (by decide) ?_
          refine lv_iadd hx hb dX10_cost_67 ?_
          refine lv_topi (fun y40 ey41 => ?_)
          obtain ⟨k42, hk43, b44, b45⟩ := hq_add (tt1) (4)
          rw [← ey41] at hk43 b44 b45
          have hk43 : (y40).toInt = (tt1).toInt + (4 : Int) + k42 * 4294967296 := hk43
          obtain rfl : k42 = 0 := by omega
          exact jn68 _ _ _ ls  (y40) hZ hP rfl (by unfold sp_i3; omega) (by omega) (lv_sub hl [0] rfl)
      · have c32 : (ww4).toInt = (-2 : Int) := hq_eqi.mp c32
        refine lv_iconst (v := 0) hx hb dX10_cost_49 (by decide) ?_
        refine lv_goto (tgt := 67) hx hb dX10_cost_50 (by decide) ?_
        refine lv_iadd hx hb dX10_cost_67 ?_
        refine lv_topi (fun y46 ey47 => ?_)
        obtain ⟨k48, hk49, b50, b51⟩ := hq_add (tt1) (0)
        rw [← ey47] at hk49 b50 b51
        have hk49 : (y46).toInt = (tt1).toInt + (0 : Int) + k48 * 4294967296 := hk49
        obtain rfl : k48 = 0 := by omega
        exact jn68 _ _ _ ls  (y46) hZ hP rfl (by unfold sp_i3; omega) (by omega) (lv_sub hl [0] rfl)
    refine lv_aload_n hx hb dX10_cost_13 rfl (lv_at hl 0 rfl) ?_
    refine hp_get (v := .int (ww3)) hx hb hts hown hZ hc0 fl_X10_21 rfl dX10_cost_14 ?_
    refine lv_bipush (v := -2) hx hb dX10_cost_17 (by decide) ?_
    refine lv_icmp_ne (tgt := 26) hx hb dX10_cost_19 (by decide) (fun c52 => ?_) (fun c52 => ?_)
    · have c52 : ¬ (ww3).toInt = (-2 : Int) := fun h9 => c52 (hq_eqi.mpr h9)
      refine lv_aload_n hx hb dX10_cost_26 rfl (lv_at hl 0 rfl) ?_
      refine hp_get (v := .int (ww3)) hx hb hts hown hZ hc0 fl_X10_21 rfl dX10_cost_27 ?_
      refine lv_iconst (v := -1) hx hb dX10_cost_30 (by decide) ?_
      refine lv_icmp_ne (tgt := 38) hx hb dX10_cost_31 (by decide) (fun c53 => ?_) (fun c53 => ?_)
      · have c53 : ¬ (ww3).toInt = (-1 : Int) := fun h9 => c53 (hq_eqi.mpr h9)
        refine lv_iconst (v := 3) hx hb dX10_cost_38 (by decide) ?_
        refine lv_iadd hx hb dX10_cost_39 ?_
        refine lv_topi (fun y54 ey55 => ?_)
        obtain ⟨k56, hk57, b58, b59⟩ := hq_add (tt0) (3)
        rw [← ey55] at hk57 b58 b59
        have hk57 : (y54).toInt = (tt0).toInt + (3 : Int) + k56 * 4294967296 := hk57
        obtain rfl : k56 = 0 := by omega
        exact jn40 _ _ _ ls  (y54) hZ hP rfl (by unfold sp_i3; omega) (by omega) (lv_sub hl [0] rfl)
      · have c53 : (ww3).toInt = (-1 : Int) := hq_eqi.mp c53
        refine lv_iconst (v := 2) hx hb dX10_cost_34 (by decide) ?_
        refine lv_goto (tgt := 39) hx hb dX10_cost_35 (by decide) ?_
        refine lv_iadd hx hb dX10_cost_39 ?_
        refine lv_topi (fun y60 ey61 => ?_)
        obtain ⟨k62, hk63, b64, b65⟩ := hq_add (tt0) (2)
        rw [← ey61] at hk63 b64 b65
        have hk63 : (y60).toInt = (tt0).toInt + (2 : Int) + k62 * 4294967296 := hk63
        obtain rfl : k62 = 0 := by omega
        exact jn40 _ _ _ ls  (y60) hZ hP rfl (by unfold sp_i3; omega) (by omega) (lv_sub hl [0] rfl)
    · have c52 : (ww3).toInt = (-2 : Int) := hq_eqi.mp c52
      refine lv_iconst (v := 0) hx hb dX10_cost_22 (by decide) ?_
      refine lv_goto (tgt := 39) hx hb dX10_cost_23 (by decide) ?_
      refine lv_iadd hx hb dX10_cost_39 ?_
      refine lv_topi (fun y66 ey67 => ?_)
      obtain ⟨k68, hk69, b70, b71⟩ := hq_add (tt0) (0)
      rw [← ey67] at hk69 b70 b71
      have hk69 : (y66).toInt = (tt0).toInt + (0 : Int) + k68 * 4294967296 := hk69
      obtain rfl : k68 = 0 := by omega
      exact jn40 _ _ _ ls  (y66) hZ hP rfl (by unfold sp_i3; omega) (by omega) (lv_sub hl [0] rfl)
  refine lv_aload_n hx hb dX10_cost_0 rfl (lv_at hl 0 rfl) ?_
  refine hp_get (v := .int (ww0)) hx hb hts hown hZ hc0 fl_X10_9 rfl dX10_cost_1 ?_
  refine lv_iconst (v := -1) hx hb dX10_cost_4 (by decide) ?_
  refine lv_icmp_ne (tgt := 12) hx hb dX10_cost_5 (by decide) (fun c72 => ?_) (fun c72 => ?_)
  · have c72 : ¬ (ww0).toInt = (-1 : Int) := fun h9 => c72 (hq_eqi.mpr h9)
    refine lv_iconst (v := 2) hx hb dX10_cost_12 (by decide) ?_
    have hl73 : (2 : Int32).toInt = 2 := by decide
    exact jn13 _ _ _ ls  (2) hZ hP rfl (by unfold sp_i2; omega) (by omega) (lv_sub hl [0] rfl)
  · have c72 : (ww0).toInt = (-1 : Int) := hq_eqi.mp c72
    refine lv_iconst (v := 0) hx hb dX10_cost_8 (by decide) ?_
    refine lv_goto (tgt := 13) hx hb dX10_cost_9 (by decide) ?_
    have hl74 : (0 : Int32).toInt = 0 := by decide
    exact jn13 _ _ _ ls  (0) hZ hP rfl (by unfold sp_i2; omega) (by omega) (lv_sub hl [0] rfl)

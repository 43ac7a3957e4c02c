set_option maxHeartbeats 4000000 in
set_option maxRecDepth 100000 in
theorem x_cost (l : Launch) (D : va_G) (cs : Nat → ClassId) (B : Nat) (G : hq_G) (V : hp_V) (n : Nat) (hI : hq_I cs G V) (a : Nat) (ww0 : Int32) (ww1 : Int32) (ww2 : Int32) (ww3 : Int32) (ww4 : Int32) (ww5 : Int32) (ww6 : Int32) (hc0 : V (a) = some (.inr (10, [.int (ww0), .int (ww1), .int (ww2), .int (ww3), .int (ww4), .int (ww5), .int (ww6)]))) : hp_M l yX10_cost cX10_cost 1 (some .int) ({ frames := 1, cells := 0, slots := 0, locals := 21 }) D cs B V n [.ref (a)] (hp_QI D cs B (fun r V' n' => n = n' ∧ V = V' ∧ (r.toInt = sp_wc ww0.toInt ww3.toInt ww4.toInt ww5.toInt ww6.toInt))) 0 0 := by
  refine hp_walk (R0 := RX10) (by decide) rfl ?_ (Nat.le_of_ble_eq_true rfl)
  intro p e s m below meth c ls hx hb hr hts hown hlocks hin hml hZ hl
  have hP : hq_I cs G V := hI
  have hl : lv_has ls 1 [(0, .ref (a))] := hl
  have hb_ww0 := hq_rng ww0
  have hb_ww1 := hq_rng ww1
  have hb_ww2 := hq_rng ww2
  have hb_ww3 := hq_rng ww3
  have hb_ww4 := hq_rng ww4
  have hb_ww5 := hq_rng ww5
  have hb_ww6 := hq_rng ww6
  have jn13 : ∀ (V9 : hp_V) (H9 : Heap) (locs9 : List Loc) (ls : Array Slot)  (tt0 : Int32), hp_Z D cs B s V9 H9 n locs9 → hq_I cs G V9 → V = V9 → (sp_i2 ww0.toInt (-1) 2 tt0.toInt) → 0 ≤ tt0.toInt ∧ tt0.toInt ≤ 4 → lv_has ls 1 [(0, .ref (a))] → W p l e ({ frames := 1, cells := 0, slots := 0, locals := 21 }) s m ([.ref (a)] : List Value).toArray below meth c H9 locs9 0 0 (MQ below (hp_QI D cs B (fun r V' n' => n = n' ∧ V = V' ∧ (r.toInt = sp_wc ww0.toInt ww3.toInt ww4.toInt ww5.toInt ww6.toInt))) ([.ref (a)] : List Value).toArray s 0 0 (hp_F B)) (F0 m 13 ls [.int (tt0)]) := by
    intro V9 H9 locs9 ls  tt0  hZ hP  fr13  hi0 hv1 hl
    have hb_tt0 := hq_rng tt0
    subst fr13
    have jn40 : ∀ (V9 : hp_V) (H9 : Heap) (locs9 : List Loc) (ls : Array Slot)  (tt1 : Int32), hp_Z D cs B s V9 H9 n locs9 → hq_I cs G V9 → V = V9 → (sp_i3 ww3.toInt (-2) 0 (-1) 2 3 (tt1.toInt - tt0.toInt)) → 0 ≤ tt1.toInt ∧ tt1.toInt ≤ 8 → lv_has ls 1 [(0, .ref (a))] → W p l e ({ frames := 1, cells := 0, slots := 0, locals := 21 }) s m ([.ref (a)] : List Value).toArray below meth c H9 locs9 0 0 (MQ below (hp_QI D cs B (fun r V' n' => n = n' ∧ V = V' ∧ (r.toInt = sp_wc ww0.toInt ww3.toInt ww4.toInt ww5.toInt ww6.toInt))) ([.ref (a)] : List Value).toArray s 0 0 (hp_F B)) (F0 m 40 ls [.int (tt1)]) := by
      intro V9 H9 locs9 ls  tt1  hZ hP  fr40  hi1 hv2 hl
      have hb_tt1 := hq_rng tt1
      subst fr40
      have jn68 : ∀ (V9 : hp_V) (H9 : Heap) (locs9 : List Loc) (ls : Array Slot)  (tt2 : Int32), hp_Z D cs B s V9 H9 n locs9 → hq_I cs G V9 → V = V9 → (sp_i3 ww4.toInt (-2) 0 60 4 3 (tt2.toInt - tt1.toInt)) → 0 ≤ tt2.toInt ∧ tt2.toInt ≤ 12 → lv_has ls 1 [(0, .ref (a))] → W p l e ({ frames := 1, cells := 0, slots := 0, locals := 21 }) s m ([.ref (a)] : List Value).toArray below meth c H9 locs9 0 0 (MQ below (hp_QI D cs B (fun r V' n' => n = n' ∧ V = V' ∧ (r.toInt = sp_wc ww0.toInt ww3.toInt ww4.toInt ww5.toInt ww6.toInt))) ([.ref (a)] : List Value).toArray s 0 0 (hp_F B)) (F0 m 68 ls [.int (tt2)]) := by
        intro V9 H9 locs9 ls  tt2  hZ hP  fr68  hi2 hv3 hl
        have hb_tt2 := hq_rng tt2
        subst fr68
        have jn82 : ∀ (V9 : hp_V) (H9 : Heap) (locs9 : List Loc) (ls : Array Slot)  (tt3 : Int32), hp_Z D cs B s V9 H9 n locs9 → hq_I cs G V9 → V = V9 → (sp_i2 ww5.toInt (-1) 2 (tt3.toInt - tt2.toInt)) → 0 ≤ tt3.toInt ∧ tt3.toInt ≤ 16 → lv_has ls 1 [(0, .ref (a))] → W p l e ({ frames := 1, cells := 0, slots := 0, locals := 21 }) s m ([.ref (a)] : List Value).toArray below meth c H9 locs9 0 0 (MQ below (hp_QI D cs B (fun r V' n' => n = n' ∧ V = V' ∧ (r.toInt = sp_wc ww0.toInt ww3.toInt ww4.toInt ww5.toInt ww6.toInt))) ([.ref (a)] : List Value).toArray s 0 0 (hp_F B)) (F0 m 82 ls [.int (tt3)]) := by
          intro V9 H9 locs9 ls  tt3  hZ hP  fr82  hi3 hv4 hl
          have hb_tt3 := hq_rng tt3
          subst fr82
          have jn96 : ∀ (V9 : hp_V) (H9 : Heap) (locs9 : List Loc) (ls : Array Slot)  (tt4 : Int32), hp_Z D cs B s V9 H9 n locs9 → hq_I cs G V9 → V = V9 → (sp_i2 ww6.toInt (-1) 2 (tt4.toInt - tt3.toInt)) → 0 ≤ tt4.toInt ∧ tt4.toInt ≤ 20 → lv_has ls 1 [(0, .ref (a))] → W p l e ({ frames := 1, cells := 0, slots := 0, locals := 21 }) s m ([.ref (a)] : List Value).toArray below meth c H9 locs9 0 0 (MQ below (hp_QI D cs B (fun r V' n' => n = n' ∧ V = V' ∧ (r.toInt = sp_wc ww0.toInt ww3.toInt ww4.toInt ww5.toInt ww6.toInt))) ([.ref (a)] : List Value).toArray s 0 0 (hp_F B)) (F0 m 96 ls [.int (tt4)]) := by
            intro V9 H9 locs9 ls  tt4  hZ hP  fr96  hi4 hv5 hl
            have hb_tt4 := hq_rng tt4
            subst fr96
            exact hp_iret hx hb hr hlocks hZ ⟨rfl, rfl, sp_wc_eq hi0 hi1 hi2 hi3 hi4 (by omega)⟩ dX10_cost_96
          refine lv_aload_n hx hb dX10_cost_82 rfl (lv_at hl 0 rfl) ?_
          refine hp_get (v := .int (ww6)) hx hb hts hown hZ hc0 fl_X10_30 rfl dX10_cost_83 ?_
          refine lv_iconst (v := -1) hx hb dX10_cost_86 (by decide) ?_
          refine lv_icmp_ne (tgt := 94) hx hb dX10_cost_87 (by decide) (fun c6 => ?_) (fun c6 => ?_)
          · have c6 : ¬ (ww6).toInt = (-1 : Int) := fun h9 => c6 (hq_eqi.mpr h9)
            refine lv_iconst (v := 2) hx hb dX10_cost_94 (by decide) ?_
            refine lv_iadd hx hb dX10_cost_95 ?_
            refine lv_topi (fun y7 ey8 => ?_)
            obtain ⟨k9, hk10, b11, b12⟩ := hq_add (tt3) (2)
            rw [← ey8] at hk10 b11 b12
            have hk10 : (y7).toInt = (tt3).toInt + (2 : Int) + k9 * 4294967296 := hk10
            obtain rfl : k9 = 0 := by omega
            exact jn96 _ _ _ ls  (y7) hZ hP rfl (by unfold sp_i2; omega) (by omega) (lv_sub hl [0] rfl)
          · have c6 : (ww6).toInt = (-1 : Int) := hq_eqi.mp c6
            refine lv_iconst (v := 0) hx hb dX10_cost_90 (by decide) ?_
            refine lv_goto (tgt := 95) hx hb dX10_cost_91 (by decide) ?_
            refine lv_iadd hx hb dX10_cost_95 ?_
            refine lv_topi (fun y13 ey14 => ?_)
            obtain ⟨k15, hk16, b17, b18⟩ := hq_add (tt3) (0)
            rw [← ey14] at hk16 b17 b18
            have hk16 : (y13).toInt = (tt3).toInt + (0 : Int) + k15 * 4294967296 := hk16
            obtain rfl : k15 = 0 := by omega
            exact jn96 _ _ _ ls  (y13) hZ hP rfl (by unfold sp_i2; omega) (by omega) (lv_sub hl [0] rfl)
        refine lv_aload_n hx hb dX10_cost_68 rfl (lv_at hl 0 rfl) ?_
        refine hp_get (v := .int (ww5)) hx hb hts hown hZ hc0 fl_X10_27 rfl dX10_cost_69 ?_
        refine lv_iconst (v := -1) hx hb dX10_cost_72 (by decide) ?_
        refine lv_icmp_ne (tgt := 80) hx hb dX10_cost_73 (by decide) (fun c19 => ?_) (fun c19 => ?_)
        · have c19 : ¬ (ww5).toInt = (-1 : Int) := fun h9 => c19 (hq_eqi.mpr h9)
          refine lv_iconst (v := 2) hx hb dX10_cost_80 (by decide) ?_
          refine lv_iadd hx hb dX10_cost_81 ?_
          refine lv_topi (fun y20 ey21 => ?_)
          obtain ⟨k22, hk23, b24, b25⟩ := hq_add (tt2) (2)
          rw [← ey21] at hk23 b24 b25
          have hk23 : (y20).toInt = (tt2).toInt + (2 : Int) + k22 * 4294967296 := hk23
          obtain rfl : k22 = 0 := by omega
          exact jn82 _ _ _ ls  (y20) hZ hP rfl (by unfold sp_i2; omega) (by omega) (lv_sub hl [0] rfl)
        · have c19 : (ww5).toInt = (-1 : Int) := hq_eqi.mp c19
          refine lv_iconst (v := 0) hx hb dX10_cost_76 (by decide) ?_
          refine lv_goto (tgt := 81) hx hb dX10_cost_77 (by decide) ?_
          refine lv_iadd hx hb dX10_cost_81 ?_
          refine lv_topi (fun y26 ey27 => ?_)
          obtain ⟨k28, hk29, b30, b31⟩ := hq_add (tt2) (0)
          rw [← ey27] at hk29 b30 b31
          have hk29 : (y26).toInt = (tt2).toInt + (0 : Int) + k28 * 4294967296 := hk29
          obtain rfl : k28 = 0 := by omega
          exact jn82 _ _ _ ls  (y26) hZ hP rfl (by unfold sp_i2; omega) (by omega) (lv_sub hl [0] rfl)
      refine lv_aload_n hx hb dX10_cost_40 rfl (lv_at hl 0 rfl) ?_
      refine hp_get (v := .int (ww4)) hx hb hts hown hZ hc0 fl_X10_24 rfl dX10_cost_41 ?_
      refine lv_bipush (v := -2) hx hb dX10_cost_44 (by decide) ?_
      refine lv_icmp_ne (tgt := 53) hx hb dX10_cost_46 (by decide) (fun c32 => ?_) (fun c32 => ?_)
      · have c32 : ¬ (ww4).toInt = (-2 : Int) := fun h9 => c32 (hq_eqi.mpr h9)
        refine lv_aload_n hx hb dX10_cost_53 rfl (lv_at hl 0 rfl) ?_
        refine hp_get (v := .int (ww4)) hx hb hts hown hZ hc0 fl_X10_24 rfl dX10_cost_54 ?_
        refine lv_bipush (v := 60) hx hb dX10_cost_57 (by decide) ?_
        refine lv_icmp_ne (tgt := 66) hx hb dX10_cost_59 (by decide) (fun c33 => ?_) (fun c33 => ?_)
        · have c33 : ¬ (ww4).toInt = (60 : Int) := fun h9 => c33 (hq_eqi.mpr h9)
          refine lv_iconst (v := 3) hx hb dX10_cost_66 (by decide) ?_
          refine lv_iadd hx hb dX10_cost_67 ?_
          refine lv_topi (fun y34 ey35 => ?_)
          obtain ⟨k36, hk37, b38, b39⟩ := hq_add (tt1) (3)
          rw [← ey35] at hk37 b38 b39
          have hk37 : (y34).toInt = (tt1).toInt + (3 : Int) + k36 * 4294967296 := hk37
          obtain rfl : k36 = 0 := by omega
          exact jn68 _ _ _ ls  (y34) hZ hP rfl (by unfold sp_i3; omega) (by omega) (lv_sub hl [0] rfl)
        · have c33 : (ww4).toInt = (60 : Int) := hq_eqi.mp c33
          refine lv_iconst (v := 4) hx hb dX10_cost_62 (by decide) ?_
          refine lv_goto (tgt := 67) hx hb dX10_cost_63 (by decide) ?_
          refine lv_iadd hx hb dX10_cost_67 ?_
          refine lv_topi (fun y40 ey41 => ?_)
          obtain ⟨k42, hk43, b44, b45⟩ := hq_add (tt1) (4)
          rw [← ey41] at hk43 b44 b45
          have hk43 : (y40).toInt = (tt1).toInt + (4 : Int) + k42 * 4294967296 := hk43
          obtain rfl : k42 = 0 := by omega
          exact jn68 _ _ _ ls  (y40) hZ hP rfl (by unfold sp_i3; omega) (by omega) (lv_sub hl [0] rfl)
      · have c32 : (ww4).toInt = (-2 : Int) := hq_eqi.mp c32
        refine lv_iconst (v := 0) hx hb dX10_cost_49 (by decide) ?_
        refine lv_goto (tgt := 67) hx hb dX10_cost_50 (by decide) ?_
        refine lv_iadd hx hb dX10_cost_67 ?_
        refine lv_topi (fun y46 ey47 => ?_)
        obtain ⟨k48, hk49, b50, b51⟩ := hq_add (tt1) (0)
        rw [← ey47] at hk49 b50 b51
        have hk49 : (y46).toInt = (tt1).toInt + (0 : Int) + k48 * 4294967296 := hk49
        obtain rfl : k48 = 0 := by omega
        exact jn68 _ _ _ ls  (y46) hZ hP rfl (by unfold sp_i3; omega) (by omega) (lv_sub hl [0] rfl)
    refine lv_aload_n hx hb dX10_cost_13 rfl (lv_at hl 0 rfl) ?_
    refine hp_get (v := .int (ww3)) hx hb hts hown hZ hc0 fl_X10_21 rfl dX10_cost_14 ?_
    refine lv_bipush (v := -2) hx hb dX10_cost_17 (by decide) ?_
    refine lv_icmp_ne (tgt := 26) hx hb dX10_cost_19 (by decide) (fun c52 => ?_) (fun c52 => ?_)
    · have c52 : ¬ (ww3).toInt = (-2 : Int) := fun h9 => c52 (hq_eqi.mpr h9)
      refine lv_aload_n hx hb dX10_cost_26 rfl (lv_at hl 0 rfl) ?_
      refine hp_get (v := .int (ww3)) hx hb hts hown hZ hc0 fl_X10_21 rfl dX10_cost_27 ?_
      refine lv_iconst (v := -1) hx hb dX10_cost_30 (by decide) ?_
      refine lv_icmp_ne (tgt := 38) hx hb dX10_cost_31 (by decide) (fun c53 => ?_) (fun c53 => ?_)
      · have c53 : ¬ (ww3).toInt = (-1 : Int) := fun h9 => c53 (hq_eqi.mpr h9)
        refine lv_iconst (v := 3) hx hb dX10_cost_38 (by decide) ?_
        refine lv_iadd hx hb dX10_cost_39 ?_
        refine lv_topi (fun y54 ey55 => ?_)
        obtain ⟨k56, hk57, b58, b59⟩ := hq_add (tt0) (3)
        rw [← ey55] at hk57 b58 b59
        have hk57 : (y54).toInt = (tt0).toInt + (3 : Int) + k56 * 4294967296 := hk57
        obtain rfl : k56 = 0 := by omega
        exact jn40 _ _ _ ls  (y54) hZ hP rfl (by unfold sp_i3; omega) (by omega) (lv_sub hl [0] rfl)
      · have c53 : (ww3).toInt = (-1 : Int) := hq_eqi.mp c53
        refine lv_iconst (v := 2) hx hb dX10_cost_34 (by decide) ?_
        refine lv_goto (tgt := 39) hx hb dX10_cost_35 (by decide) ?_
        refine lv_iadd hx hb dX10_cost_39 ?_
        refine lv_topi (fun y60 ey61 => ?_)
        obtain ⟨k62, hk63, b64, b65⟩ := hq_add (tt0) (2)
        rw [← ey61] at hk63 b64 b65
        have hk63 : (y60).toInt = (tt0).toInt + (2 : Int) + k62 * 4294967296 := hk63
        obtain rfl : k62 = 0 := by omega
        exact jn40 _ _ _ ls  (y60) hZ hP rfl (by unfold sp_i3; omega) (by omega) (lv_sub hl [0] rfl)
    · have c52 : (ww3).toInt = (-2 : Int) := hq_eqi.mp c52
      refine lv_iconst (v := 0) hx hb dX10_cost_22 (by decide) ?_
      refine lv_goto (tgt := 39) hx hb dX10_cost_23 (by decide) ?_
      refine lv_iadd hx hb dX10_cost_39 ?_
      refine lv_topi (fun y66 ey67 => ?_)
      obtain ⟨k68, hk69, b70, b71⟩ := hq_add (tt0) (0)
      rw [← ey67] at hk69 b70 b71
      have hk69 : (y66).toInt = (tt0).toInt + (0 : Int) + k68 * 4294967296 := hk69
      obtain rfl : k68 = 0 := by omega
      exact jn40 _ _ _ ls  (y66) hZ hP rfl (by unfold sp_i3; omega) (by omega) (lv_sub hl [0] rfl)
  refine lv_aload_n hx hb dX10_cost_0 rfl (lv_at hl 0 rfl) ?_
  refine hp_get (v := .int (ww0)) hx hb hts hown hZ hc0 fl_X10_9 rfl dX10_cost_1 ?_
  refine lv_iconst (v := -1) hx hb dX10_cost_4 (by decide) ?_
  refine lv_icmp_ne (tgt := 12) hx hb dX10_cost_5 (by decide) (fun c72 => ?_) (fun c72 => ?_)
  · have c72 : ¬ (ww0).toInt = (-1 : Int) := fun h9 => c72 (hq_eqi.mpr h9)
    refine lv_iconst (v := 2) hx hb dX10_cost_12 (by decide) ?_
    have hl73 : (2 : Int32).toInt = 2 := by decide
    exact jn13 _ _ _ ls  (2) hZ hP rfl (by unfold sp_i2; omega) (by omega) (lv_sub hl [0] rfl)
  · have c72 : (ww0).toInt = (-1 : Int) := hq_eqi.mp c72
    refine lv_iconst (v := 0) hx hb dX10_cost_8 (by decide) ?_
    refine lv_goto (tgt := 13) hx hb dX10_cost_9 (by decide) ?_
    have hl74 : (0 : Int32).toInt = 0 := by decide
    exact jn13 _ _ _ ls  (0) hZ hP rfl (by unfold sp_i2; omega) (by omega) (lv_sub hl [0] rfl)

set_option maxHeartbeats 4000000 in
set_option maxRecDepth 100000 in
theorem x_chgs (l : Launch) (D : va_G) (cs : Nat → ClassId) (B : Nat) (G : hq_G) (V : hp_V) (n : Nat) (hI : hq_I cs G V) (a : Nat) (ww0 : Int32) (ww1 : Int32) (ww2 : Int32) (ww3 : Int32) (ww4 : Int32) (ww5 : Int32) (ww6 : Int32) (hc0 : V (a) = some (.inr (10, [.int (ww0), .int (ww1), .int (ww2), .int (ww3), .int (ww4), .int (ww5), .int (ww6)]))) : hp_M l yX10_changes cX10_changes 1 (some .int) ({ frames := 1, cells := 0, slots := 0, locals := 21 }) D cs B V n [.ref (a)] (hp_QI D cs B (fun r V' n' => n = n' ∧ V = V' ∧ (r.toInt = sp_wk ww0.toInt ww3.toInt ww4.toInt ww5.toInt ww6.toInt))) 0 0 := by
  refine hp_walk (R0 := RX10) (by decide) rfl ?_ (Nat.le_of_ble_eq_true rfl)
  intro p e s m below meth c ls hx hb hr hts hown hlocks hin hml hZ hl
  have hP : hq_I cs G V := hI
  have hl : lv_has ls 1 [(0, .ref (a))] := hl
  have hb_ww0 := hq_rng ww0
  have hb_ww1 := hq_rng ww1
  have hb_ww2 := hq_rng ww2
  have hb_ww3 := hq_rng ww3
  have hb_ww4 := hq_rng ww4
  have hb_ww5 := hq_rng ww5
  have hb_ww6 := hq_rng ww6
  have jn13 : ∀ (V9 : hp_V) (H9 : Heap) (locs9 : List Loc) (ls : Array Slot)  (tt0 : Int32), hp_Z D cs B s V9 H9 n locs9 → hq_I cs G V9 → V = V9 → (sp_i2 ww0.toInt (-1) 1 tt0.toInt) → 0 ≤ tt0.toInt ∧ tt0.toInt ≤ 4 → lv_has ls 1 [(0, .ref (a))] → W p l e ({ frames := 1, cells := 0, slots := 0, locals := 21 }) s m ([.ref (a)] : List Value).toArray below meth c H9 locs9 0 0 (MQ below (hp_QI D cs B (fun r V' n' => n = n' ∧ V = V' ∧ (r.toInt = sp_wk ww0.toInt ww3.toInt ww4.toInt ww5.toInt ww6.toInt))) ([.ref (a)] : List Value).toArray s 0 0 (hp_F B)) (F0 m 13 ls [.int (tt0)]) := by
    intro V9 H9 locs9 ls  tt0  hZ hP  fr13  hi0 hv1 hl
    have hb_tt0 := hq_rng tt0
    subst fr13
    have jn28 : ∀ (V9 : hp_V) (H9 : Heap) (locs9 : List Loc) (ls : Array Slot)  (tt1 : Int32), hp_Z D cs B s V9 H9 n locs9 → hq_I cs G V9 → V = V9 → (sp_i2 ww3.toInt (-2) 1 (tt1.toInt - tt0.toInt)) → 0 ≤ tt1.toInt ∧ tt1.toInt ≤ 8 → lv_has ls 1 [(0, .ref (a))] → W p l e ({ frames := 1, cells := 0, slots := 0, locals := 21 }) s m ([.ref (a)] : List Value).toArray below meth c H9 locs9 0 0 (MQ below (hp_QI D cs B (fun r V' n' => n = n' ∧ V = V' ∧ (r.toInt = sp_wk ww0.toInt ww3.toInt ww4.toInt ww5.toInt ww6.toInt))) ([.ref (a)] : List Value).toArray s 0 0 (hp_F B)) (F0 m 28 ls [.int (tt1)]) := by
      intro V9 H9 locs9 ls  tt1  hZ hP  fr28  hi1 hv2 hl
      have hb_tt1 := hq_rng tt1
      subst fr28
      have jn43 : ∀ (V9 : hp_V) (H9 : Heap) (locs9 : List Loc) (ls : Array Slot)  (tt2 : Int32), hp_Z D cs B s V9 H9 n locs9 → hq_I cs G V9 → V = V9 → (sp_i2 ww4.toInt (-2) 1 (tt2.toInt - tt1.toInt)) → 0 ≤ tt2.toInt ∧ tt2.toInt ≤ 12 → lv_has ls 1 [(0, .ref (a))] → W p l e ({ frames := 1, cells := 0, slots := 0, locals := 21 }) s m ([.ref (a)] : List Value).toArray below meth c H9 locs9 0 0 (MQ below (hp_QI D cs B (fun r V' n' => n = n' ∧ V = V' ∧ (r.toInt = sp_wk ww0.toInt ww3.toInt ww4.toInt ww5.toInt ww6.toInt))) ([.ref (a)] : List Value).toArray s 0 0 (hp_F B)) (F0 m 43 ls [.int (tt2)]) := by
        intro V9 H9 locs9 ls  tt2  hZ hP  fr43  hi2 hv3 hl
        have hb_tt2 := hq_rng tt2
        subst fr43
        have jn57 : ∀ (V9 : hp_V) (H9 : Heap) (locs9 : List Loc) (ls : Array Slot)  (tt3 : Int32), hp_Z D cs B s V9 H9 n locs9 → hq_I cs G V9 → V = V9 → (sp_i2 ww5.toInt (-1) 1 (tt3.toInt - tt2.toInt)) → 0 ≤ tt3.toInt ∧ tt3.toInt ≤ 16 → lv_has ls 1 [(0, .ref (a))] → W p l e ({ frames := 1, cells := 0, slots := 0, locals := 21 }) s m ([.ref (a)] : List Value).toArray below meth c H9 locs9 0 0 (MQ below (hp_QI D cs B (fun r V' n' => n = n' ∧ V = V' ∧ (r.toInt = sp_wk ww0.toInt ww3.toInt ww4.toInt ww5.toInt ww6.toInt))) ([.ref (a)] : List Value).toArray s 0 0 (hp_F B)) (F0 m 57 ls [.int (tt3)]) := by
          intro V9 H9 locs9 ls  tt3  hZ hP  fr57  hi3 hv4 hl
          have hb_tt3 := hq_rng tt3
          subst fr57
          have jn71 : ∀ (V9 : hp_V) (H9 : Heap) (locs9 : List Loc) (ls : Array Slot)  (tt4 : Int32), hp_Z D cs B s V9 H9 n locs9 → hq_I cs G V9 → V = V9 → (sp_i2 ww6.toInt (-1) 1 (tt4.toInt - tt3.toInt)) → 0 ≤ tt4.toInt ∧ tt4.toInt ≤ 20 → lv_has ls 1 [(0, .ref (a))] → W p l e ({ frames := 1, cells := 0, slots := 0, locals := 21 }) s m ([.ref (a)] : List Value).toArray below meth c H9 locs9 0 0 (MQ below (hp_QI D cs B (fun r V' n' => n = n' ∧ V = V' ∧ (r.toInt = sp_wk ww0.toInt ww3.toInt ww4.toInt ww5.toInt ww6.toInt))) ([.ref (a)] : List Value).toArray s 0 0 (hp_F B)) (F0 m 71 ls [.int (tt4)]) := by
            intro V9 H9 locs9 ls  tt4  hZ hP  fr71  hi4 hv5 hl
            have hb_tt4 := hq_rng tt4
            subst fr71
            exact hp_iret hx hb hr hlocks hZ ⟨rfl, rfl, sp_wk_eq hi0 hi1 hi2 hi3 hi4 (by omega)⟩ dX10_changes_71
          refine lv_aload_n hx hb dX10_changes_57 rfl (lv_at hl 0 rfl) ?_
          refine hp_get (v := .int (ww6)) hx hb hts hown hZ hc0 fl_X10_30 rfl dX10_changes_58 ?_
          refine lv_iconst (v := -1) hx hb dX10_changes_61 (by decide) ?_
          refine lv_icmp_ne (tgt := 69) hx hb dX10_changes_62 (by decide) (fun c6 => ?_) (fun c6 => ?_)
          · have c6 : ¬ (ww6).toInt = (-1 : Int) := fun h9 => c6 (hq_eqi.mpr h9)
            refine lv_iconst (v := 1) hx hb dX10_changes_69 (by decide) ?_
            refine lv_iadd hx hb dX10_changes_70 ?_
            refine lv_topi (fun y7 ey8 => ?_)
            obtain ⟨k9, hk10, b11, b12⟩ := hq_add (tt3) (1)
            rw [← ey8] at hk10 b11 b12
            have hk10 : (y7).toInt = (tt3).toInt + (1 : Int) + k9 * 4294967296 := hk10
            obtain rfl : k9 = 0 := by omega
            exact jn71 _ _ _ ls  (y7) hZ hP rfl (by unfold sp_i2; omega) (by omega) (lv_sub hl [0] rfl)
          · have c6 : (ww6).toInt = (-1 : Int) := hq_eqi.mp c6
            refine lv_iconst (v := 0) hx hb dX10_changes_65 (by decide) ?_
            refine lv_goto (tgt := 70) hx hb dX10_changes_66 (by decide) ?_
            refine lv_iadd hx hb dX10_changes_70 ?_
            refine lv_topi (fun y13 ey14 => ?_)
            obtain ⟨k15, hk16, b17, b18⟩ := hq_add (tt3) (0)
            rw [← ey14] at hk16 b17 b18
            have hk16 : (y13).toInt = (tt3).toInt + (0 : Int) + k15 * 4294967296 := hk16
            obtain rfl : k15 = 0 := by omega
            exact jn71 _ _ _ ls  (y13) hZ hP rfl (by unfold sp_i2; omega) (by omega) (lv_sub hl [0] rfl)
        refine lv_aload_n hx hb dX10_changes_43 rfl (lv_at hl 0 rfl) ?_
        refine hp_get (v := .int (ww5)) hx hb hts hown hZ hc0 fl_X10_27 rfl dX10_changes_44 ?_
        refine lv_iconst (v := -1) hx hb dX10_changes_47 (by decide) ?_
        refine lv_icmp_ne (tgt := 55) hx hb dX10_changes_48 (by decide) (fun c19 => ?_) (fun c19 => ?_)
        · have c19 : ¬ (ww5).toInt = (-1 : Int) := fun h9 => c19 (hq_eqi.mpr h9)
          refine lv_iconst (v := 1) hx hb dX10_changes_55 (by decide) ?_
          refine lv_iadd hx hb dX10_changes_56 ?_
          refine lv_topi (fun y20 ey21 => ?_)
          obtain ⟨k22, hk23, b24, b25⟩ := hq_add (tt2) (1)
          rw [← ey21] at hk23 b24 b25
          have hk23 : (y20).toInt = (tt2).toInt + (1 : Int) + k22 * 4294967296 := hk23
          obtain rfl : k22 = 0 := by omega
          exact jn57 _ _ _ ls  (y20) hZ hP rfl (by unfold sp_i2; omega) (by omega) (lv_sub hl [0] rfl)
        · have c19 : (ww5).toInt = (-1 : Int) := hq_eqi.mp c19
          refine lv_iconst (v := 0) hx hb dX10_changes_51 (by decide) ?_
          refine lv_goto (tgt := 56) hx hb dX10_changes_52 (by decide) ?_
          refine lv_iadd hx hb dX10_changes_56 ?_
          refine lv_topi (fun y26 ey27 => ?_)
          obtain ⟨k28, hk29, b30, b31⟩ := hq_add (tt2) (0)
          rw [← ey27] at hk29 b30 b31
          have hk29 : (y26).toInt = (tt2).toInt + (0 : Int) + k28 * 4294967296 := hk29
          obtain rfl : k28 = 0 := by omega
          exact jn57 _ _ _ ls  (y26) hZ hP rfl (by unfold sp_i2; omega) (by omega) (lv_sub hl [0] rfl)
      refine lv_aload_n hx hb dX10_changes_28 rfl (lv_at hl 0 rfl) ?_
      refine hp_get (v := .int (ww4)) hx hb hts hown hZ hc0 fl_X10_24 rfl dX10_changes_29 ?_
      refine lv_bipush (v := -2) hx hb dX10_changes_32 (by decide) ?_
      refine lv_icmp_ne (tgt := 41) hx hb dX10_changes_34 (by decide) (fun c32 => ?_) (fun c32 => ?_)
      · have c32 : ¬ (ww4).toInt = (-2 : Int) := fun h9 => c32 (hq_eqi.mpr h9)
        refine lv_iconst (v := 1) hx hb dX10_changes_41 (by decide) ?_
        refine lv_iadd hx hb dX10_changes_42 ?_
        refine lv_topi (fun y33 ey34 => ?_)
        obtain ⟨k35, hk36, b37, b38⟩ := hq_add (tt1) (1)
        rw [← ey34] at hk36 b37 b38
        have hk36 : (y33).toInt = (tt1).toInt + (1 : Int) + k35 * 4294967296 := hk36
        obtain rfl : k35 = 0 := by omega
        exact jn43 _ _ _ ls  (y33) hZ hP rfl (by unfold sp_i2; omega) (by omega) (lv_sub hl [0] rfl)
      · have c32 : (ww4).toInt = (-2 : Int) := hq_eqi.mp c32
        refine lv_iconst (v := 0) hx hb dX10_changes_37 (by decide) ?_
        refine lv_goto (tgt := 42) hx hb dX10_changes_38 (by decide) ?_
        refine lv_iadd hx hb dX10_changes_42 ?_
        refine lv_topi (fun y39 ey40 => ?_)
        obtain ⟨k41, hk42, b43, b44⟩ := hq_add (tt1) (0)
        rw [← ey40] at hk42 b43 b44
        have hk42 : (y39).toInt = (tt1).toInt + (0 : Int) + k41 * 4294967296 := hk42
        obtain rfl : k41 = 0 := by omega
        exact jn43 _ _ _ ls  (y39) hZ hP rfl (by unfold sp_i2; omega) (by omega) (lv_sub hl [0] rfl)
    refine lv_aload_n hx hb dX10_changes_13 rfl (lv_at hl 0 rfl) ?_
    refine hp_get (v := .int (ww3)) hx hb hts hown hZ hc0 fl_X10_21 rfl dX10_changes_14 ?_
    refine lv_bipush (v := -2) hx hb dX10_changes_17 (by decide) ?_
    refine lv_icmp_ne (tgt := 26) hx hb dX10_changes_19 (by decide) (fun c45 => ?_) (fun c45 => ?_)
    · have c45 : ¬ (ww3).toInt = (-2 : Int) := fun h9 => c45 (hq_eqi.mpr h9)
      refine lv_iconst (v := 1) hx hb dX10_changes_26 (by decide) ?_
      refine lv_iadd hx hb dX10_changes_27 ?_
      refine lv_topi (fun y46 ey47 => ?_)
      obtain ⟨k48, hk49, b50, b51⟩ := hq_add (tt0) (1)
      rw [← ey47] at hk49 b50 b51
      have hk49 : (y46).toInt = (tt0).toInt + (1 : Int) + k48 * 4294967296 := hk49
      obtain rfl : k48 = 0 := by omega
      exact jn28 _ _ _ ls  (y46) hZ hP rfl (by unfold sp_i2; omega) (by omega) (lv_sub hl [0] rfl)
    · have c45 : (ww3).toInt = (-2 : Int) := hq_eqi.mp c45
      refine lv_iconst (v := 0) hx hb dX10_changes_22 (by decide) ?_
      refine lv_goto (tgt := 27) hx hb dX10_changes_23 (by decide) ?_
      refine lv_iadd hx hb dX10_changes_27 ?_
      refine lv_topi (fun y52 ey53 => ?_)
      obtain ⟨k54, hk55, b56, b57⟩ := hq_add (tt0) (0)
      rw [← ey53] at hk55 b56 b57
      have hk55 : (y52).toInt = (tt0).toInt + (0 : Int) + k54 * 4294967296 := hk55
      obtain rfl : k54 = 0 := by omega
      exact jn28 _ _ _ ls  (y52) hZ hP rfl (by unfold sp_i2; omega) (by omega) (lv_sub hl [0] rfl)
  refine lv_aload_n hx hb dX10_changes_0 rfl (lv_at hl 0 rfl) ?_
  refine hp_get (v := .int (ww0)) hx hb hts hown hZ hc0 fl_X10_9 rfl dX10_changes_1 ?_
  refine lv_iconst (v := -1) hx hb dX10_changes_4 (by decide) ?_
  refine lv_icmp_ne (tgt := 12) hx hb dX10_changes_5 (by decide) (fun c58 => ?_) (fun c58 => ?_)
  · have c58 : ¬ (ww0).toInt = (-1 : Int) := fun h9 => c58 (hq_eqi.mpr h9)
    refine lv_iconst (v := 1) hx hb dX10_changes_12 (by decide) ?_
    have hl59 : (1 : Int32).toInt = 1 := by decide
    exact jn13 _ _ _ ls  (1) hZ hP rfl (by unfold sp_i2; omega) (by omega) (lv_sub hl [0] rfl)
  · have c58 : (ww0).toInt = (-1 : Int) := hq_eqi.mp c58
    refine lv_iconst (v := 0) hx hb dX10_changes_8 (by decide) ?_
    refine lv_goto (tgt := 13) hx hb dX10_changes_9 (by decide) ?_
    have hl60 : (0 : Int32).toInt = 0 := by decide
    exact jn13 _ _ _ ls  (0) hZ hP rfl (by unfold sp_i2; omega) (by omega) (lv_sub hl [0] rfl)

set_option maxHeartbeats 4000000 in
set_option maxRecDepth 100000 in
theorem x_wset (l : Launch) (D : va_G) (cs : Nat → ClassId) (B : Nat) (G : hq_G) (V : hp_V) (n : Nat) (hI : hq_I cs G V) (a : Nat) (a2 : Nat) (ww0 : Int32) (ww1 : Int32) (ww2 : Int32) (ww3 : Int32) (ww4 : Int32) (ww5 : Int32) (ww6 : Int32) (vv0 : Int32) (vv1 : Int32) (vv2 : Int32) (vv3 : Int32) (vv4 : Int32) (vv5 : Int32) (vv6 : Int32) (hy0 : G (a) = some (13, 0, 0, 0)) (hc0 : V (a) = some (.inr (10, [.int (ww0), .int (ww1), .int (ww2), .int (ww3), .int (ww4), .int (ww5), .int (ww6)]))) (hc1 : V (a2) = some (.inr (10, [.int (vv0), .int (vv1), .int (vv2), .int (vv3), .int (vv4), .int (vv5), .int (vv6)]))) (hne : a ≠ a2) (hv1 : -1 ≤ vv1.toInt ∧ vv1.toInt ≤ 59) (hv2 : -1 ≤ vv2.toInt ∧ vv2.toInt ≤ 59) : hp_M l yX10_set cX10_set 2 none ({ frames := 1, cells := 0, slots := 0, locals := 21 }) D cs B V n [.ref (a), .ref (a2)] (hp_QV D cs B (fun V' n' => n = n' ∧ hq_P cs G (fun _ => true) V V' ∧ (∀ x, x ≠ a → V' x = V x) ∧ V' (a) = some (.inr (10, [.int (vv0), .int (vv1), .int (vv2), .int (vv3), .int (vv4), .int (vv5), .int (vv6)])))) 0 0 := by
  refine hp_walk (R0 := RX10) (by decide) rfl ?_ (Nat.le_of_ble_eq_true rfl)
  intro p e s m below meth c ls hx hb hr hts hown hlocks hin hml hZ hl
  have hP : hq_P cs G (fun _ => true) V V := hq_P.rf hI
  have hl : lv_has ls 2 [(0, .ref (a)), (1, .ref (a2))] := hl
  have hb_ww0 := hq_rng ww0
  have hb_ww1 := hq_rng ww1
  have hb_ww2 := hq_rng ww2
  have hb_ww3 := hq_rng ww3
  have hb_ww4 := hq_rng ww4
  have hb_ww5 := hq_rng ww5
  have hb_ww6 := hq_rng ww6
  have hb_vv0 := hq_rng vv0
  have hb_vv1 := hq_rng vv1
  have hb_vv2 := hq_rng vv2
  have hb_vv3 := hq_rng vv3
  have hb_vv4 := hq_rng vv4
  have hb_vv5 := hq_rng vv5
  have hb_vv6 := hq_rng vv6
  refine lv_aload_n hx hb dX10_set_0 rfl (lv_at hl 0 rfl) ?_
  refine lv_aload_n hx hb dX10_set_1 rfl (lv_at hl 1 rfl) ?_
  refine hp_get (v := .int (vv0)) hx hb hts hown hZ hc1 fl_X10_9 rfl dX10_set_2 ?_
  refine hp_put hx hb hts hown hZ hc0 fp_X10_9 rfl rfl (Nat.le_of_ble_eq_true rfl) dX10_set_5 (fun V1 _ _ e2 o3 hZ => ?_)
  have e2 : V1 (a) = some (.inr (10, [.int (vv0), .int (ww1), .int (ww2), .int (ww3), .int (ww4), .int (ww5), .int (ww6)])) := e2
  have hP := hP.put hy0 e2 o3 (hq_c13 (show -1 ≤ (ww1).toInt ∧ (ww1).toInt ≤ 59 by omega) (show -1 ≤ (ww2).toInt ∧ (ww2).toInt ≤ 59 by omega)) rfl
  refine lv_aload_n hx hb dX10_set_8 rfl (lv_at hl 0 rfl) ?_
  refine lv_aload_n hx hb dX10_set_9 rfl (lv_at hl 1 rfl) ?_
  have fx4 : V1 (a2) = some (.inr (10, [.int (vv0), .int (vv1), .int (vv2), .int (vv3), .int (vv4), .int (vv5), .int (vv6)])) := (o3 (a2) (by omega)).trans (hc1)
  refine hp_get (v := .int (vv1)) hx hb hts hown hZ fx4 fl_X10_15 rfl dX10_set_10 ?_
  refine hp_put hx hb hts hown hZ e2 fp_X10_15 rfl rfl (Nat.le_of_ble_eq_true rfl) dX10_set_13 (fun V5 _ _ e6 o7 hZ => ?_)
  have e6 : V5 (a) = some (.inr (10, [.int (vv0), .int (vv1), .int (ww2), .int (ww3), .int (ww4), .int (ww5), .int (ww6)])) := e6
  have hP := hP.put hy0 e6 o7 (hq_c13 (show -1 ≤ (vv1).toInt ∧ (vv1).toInt ≤ 59 by omega) (show -1 ≤ (ww2).toInt ∧ (ww2).toInt ≤ 59 by omega)) rfl
  refine lv_aload_n hx hb dX10_set_16 rfl (lv_at hl 0 rfl) ?_
  refine lv_aload_n hx hb dX10_set_17 rfl (lv_at hl 1 rfl) ?_
  have fx8 : V5 (a2) = some (.inr (10, [.int (vv0), .int (vv1), .int (vv2), .int (vv3), .int (vv4), .int (vv5), .int (vv6)])) := (o7 (a2) (by omega)).trans (fx4)
  refine hp_get (v := .int (vv2)) hx hb hts hown hZ fx8 fl_X10_18 rfl dX10_set_18 ?_
  refine hp_put hx hb hts hown hZ e6 fp_X10_18 rfl rfl (Nat.le_of_ble_eq_true rfl) dX10_set_21 (fun V9 _ _ e10 o11 hZ => ?_)
  have e10 : V9 (a) = some (.inr (10, [.int (vv0), .int (vv1), .int (vv2), .int (ww3), .int (ww4), .int (ww5), .int (ww6)])) := e10
  have hP := hP.put hy0 e10 o11 (hq_c13 (show -1 ≤ (vv1).toInt ∧ (vv1).toInt ≤ 59 by omega) (show -1 ≤ (vv2).toInt ∧ (vv2).toInt ≤ 59 by omega)) rfl
  refine lv_aload_n hx hb dX10_set_24 rfl (lv_at hl 0 rfl) ?_
  refine lv_aload_n hx hb dX10_set_25 rfl (lv_at hl 1 rfl) ?_
  have fx12 : V9 (a2) = some (.inr (10, [.int (vv0), .int (vv1), .int (vv2), .int (vv3), .int (vv4), .int (vv5), .int (vv6)])) := (o11 (a2) (by omega)).trans (fx8)
  refine hp_get (v := .int (vv3)) hx hb hts hown hZ fx12 fl_X10_21 rfl dX10_set_26 ?_
  refine hp_put hx hb hts hown hZ e10 fp_X10_21 rfl rfl (Nat.le_of_ble_eq_true rfl) dX10_set_29 (fun V13 _ _ e14 o15 hZ => ?_)
  have e14 : V13 (a) = some (.inr (10, [.int (vv0), .int (vv1), .int (vv2), .int (vv3), .int (ww4), .int (ww5), .int (ww6)])) := e14
  have hP := hP.put hy0 e14 o15 (hq_c13 (show -1 ≤ (vv1).toInt ∧ (vv1).toInt ≤ 59 by omega) (show -1 ≤ (vv2).toInt ∧ (vv2).toInt ≤ 59 by omega)) rfl
  refine lv_aload_n hx hb dX10_set_32 rfl (lv_at hl 0 rfl) ?_
  refine lv_aload_n hx hb dX10_set_33 rfl (lv_at hl 1 rfl) ?_
  have fx16 : V13 (a2) = some (.inr (10, [.int (vv0), .int (vv1), .int (vv2), .int (vv3), .int (vv4), .int (vv5), .int (vv6)])) := (o15 (a2) (by omega)).trans (fx12)
  refine hp_get (v := .int (vv4)) hx hb hts hown hZ fx16 fl_X10_24 rfl dX10_set_34 ?_
  refine hp_put hx hb hts hown hZ e14 fp_X10_24 rfl rfl (Nat.le_of_ble_eq_true rfl) dX10_set_37 (fun V17 _ _ e18 o19 hZ => ?_)
  have e18 : V17 (a) = some (.inr (10, [.int (vv0), .int (vv1), .int (vv2), .int (vv3), .int (vv4), .int (ww5), .int (ww6)])) := e18
  have hP := hP.put hy0 e18 o19 (hq_c13 (show -1 ≤ (vv1).toInt ∧ (vv1).toInt ≤ 59 by omega) (show -1 ≤ (vv2).toInt ∧ (vv2).toInt ≤ 59 by omega)) rfl
  refine lv_aload_n hx hb dX10_set_40 rfl (lv_at hl 0 rfl) ?_
  refine lv_aload_n hx hb dX10_set_41 rfl (lv_at hl 1 rfl) ?_
  have fx20 : V17 (a2) = some (.inr (10, [.int (vv0), .int (vv1), .int (vv2), .int (vv3), .int (vv4), .int (vv5), .int (vv6)])) := (o19 (a2) (by omega)).trans (fx16)
  refine hp_get (v := .int (vv5)) hx hb hts hown hZ fx20 fl_X10_27 rfl dX10_set_42 ?_
  refine hp_put hx hb hts hown hZ e18 fp_X10_27 rfl rfl (Nat.le_of_ble_eq_true rfl) dX10_set_45 (fun V21 _ _ e22 o23 hZ => ?_)
  have e22 : V21 (a) = some (.inr (10, [.int (vv0), .int (vv1), .int (vv2), .int (vv3), .int (vv4), .int (vv5), .int (ww6)])) := e22
  have hP := hP.put hy0 e22 o23 (hq_c13 (show -1 ≤ (vv1).toInt ∧ (vv1).toInt ≤ 59 by omega) (show -1 ≤ (vv2).toInt ∧ (vv2).toInt ≤ 59 by omega)) rfl
  refine lv_aload_n hx hb dX10_set_48 rfl (lv_at hl 0 rfl) ?_
  refine lv_aload_n hx hb dX10_set_49 rfl (lv_at hl 1 rfl) ?_
  have fx24 : V21 (a2) = some (.inr (10, [.int (vv0), .int (vv1), .int (vv2), .int (vv3), .int (vv4), .int (vv5), .int (vv6)])) := (o23 (a2) (by omega)).trans (fx20)
  refine hp_get (v := .int (vv6)) hx hb hts hown hZ fx24 fl_X10_30 rfl dX10_set_50 ?_
  refine hp_put hx hb hts hown hZ e22 fp_X10_30 rfl rfl (Nat.le_of_ble_eq_true rfl) dX10_set_53 (fun V25 _ _ e26 o27 hZ => ?_)
  have e26 : V25 (a) = some (.inr (10, [.int (vv0), .int (vv1), .int (vv2), .int (vv3), .int (vv4), .int (vv5), .int (vv6)])) := e26
  have hP := hP.put hy0 e26 o27 (hq_c13 (show -1 ≤ (vv1).toInt ∧ (vv1).toInt ≤ 59 by omega) (show -1 ≤ (vv2).toInt ∧ (vv2).toInt ≤ 59 by omega)) rfl
  exact hp_vret hx hb hr hlocks hZ ⟨rfl, hP, (fun x8 hne0 => (o27 x8 hne0).trans ((o23 x8 hne0).trans ((o19 x8 hne0).trans ((o15 x8 hne0).trans ((o11 x8 hne0).trans ((o7 x8 hne0).trans (o3 x8 hne0))))))), e26⟩ dX10_set_56

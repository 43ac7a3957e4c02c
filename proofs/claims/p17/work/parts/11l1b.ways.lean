set_option maxHeartbeats 4000000 in
set_option maxRecDepth 100000 in
theorem x_chgs (l : Launch) (D : va_G) (cs : Nat → ClassId) (B : Nat) (G : hq_G) (V : hp_V) (n : Nat) (hI : hq_I cs G V) (a : Nat) (ww0 : Int32) (ww1 : Int32) (ww2 : Int32) (ww3 : Int32) (ww4 : Int32) (ww5 : Int32) (ww6 : Int32) (hc0 : V (a) = some (.inr (10, [.int (ww0), .int (ww1), .int (ww2), .int (ww3), .int (ww4), .int (ww5), .int (ww6)]))) : hp_M l yX10_changes cX10_changes 1 (some .int) ({ frames := 1, cells := 0, slots := 0, locals := 21 }) D cs B V n [.ref (a)] (hp_QI D cs B (fun r V' n' => n = n' ∧ V = V' ∧ (r.toInt = sp_wk ww0.toInt ww3.toInt ww4.toInt ww5.toInt ww6.toInt))) 0 0 := by
  refine hp_walk (R0 := RX10) (by decide) rfl ?_ (Nat.le_of_ble_eq_true rfl)
  intro p e s m below meth c ls hx hb hr hts hown hlocks hin hml hZ hl
  have hP : hq_I cs G V := hI
  have hl : lv_has ls 1 [(0, .ref (a))] := hl
  have hb_ww0 := hq_rng ww0
  have hb_ww1 := hq_rng ww1
  have hb_ww2 := hq_rng ww2
  have hb_ww3 := hq_rng ww3
  have hb_ww4 := hq_rng ww4
  have hb_ww5 := hq_rng ww5
  have hb_ww6 := hq_rng ww6
  have jn13 : ∀ (V9 : hp_V) (H9 : Heap) (locs9 : List Loc) (ls : Array Slot)  (tt0 : Int32), hp_Z D cs B s V9 H9 n locs9 → hq_I cs G V9 → V = V9 → (sp_i2 ww0.toInt (-1) 1 tt0.toInt) → 0 ≤ tt0.toInt ∧ tt0.toInt ≤ 4 → lv_has ls 1 [(0, .ref (a))] → W p l e ({ frames := 1, cells := 0, slots := 0, locals := 21 }) s m ([.ref (a)] : List Value).toArray below meth c H9 locs9 0 0 (MQ below (hp_QI D cs B (fun r V' n' => n = n' ∧ V = V' ∧ (r.toInt = sp_wk ww0.toInt ww3.toInt ww4.toInt ww5.toInt ww6.toInt))) ([.ref (a)] : List Value).toArray s 0 0 (hp_F B)) (F0 m 13 ls [.int (tt0)]) := by
    intro V9 H9 locs9 ls  tt0  hZ hP  fr13  hi0 hv1 hl
    have hb_tt0 := hq_rng tt0
    subst fr13
    have jn28 : ∀ (V9 : hp_V) (H9 : Heap) (locs9 : List Loc) (ls : Array Slot)  (tt1 : Int32), hp_Z D cs B s V9 H9 n locs9 → hq_I cs G V9 → V = V9 → (sp_i2 ww3.toInt (-2) 1 (tt1.toInt - tt0.toInt)) → 0 ≤ tt1.toInt ∧ tt1.toInt ≤ 8 → lv_has ls 1 [(0, .ref (a))] → W p l e ({ frames := 1, cells := 0, slots := 0, locals := 21 }) s m ([.ref (a)] : List Value).toArray below meth c H9 locs9 0 0 (MQ below (hp_QI D cs B (fun r V' n' => n = n' ∧ V = V' ∧ (r.toInt = sp_wk ww0.toInt ww3.toInt ww4.toInt ww5.toInt ww6.toInt))) ([.ref (a)] : List Value).toArray s 0 0 (hp_F B)) (F0 m 28 ls [.int (tt1)]) := by
      intro V9 H9 locs9 ls  tt1  hZ hP  fr28  hi1 hv2 hl
      have hb_tt1 := hq_rng tt1
      subst fr28
      have jn43 : ∀ (V9 : hp_V) (H9 : Heap) (locs9 : List Loc) (ls : Array Slot)  (tt2 : Int32), hp_Z D cs B s V9 H9 n locs9 → hq_I cs G V9 → V = V9 → (sp_i2 ww4.toInt (-2) 1 (tt2.toInt - tt1.toInt)) → 0 ≤ tt2.toInt ∧ tt2.toInt ≤ 12 → lv_has ls 1 [(0, .ref (a))] → W p l e ({ frames := 1, cells := 0, slots := 0, locals := 21 }) s m ([.ref (a)] : List Value).toArray below meth c H9 locs9 0 0 (MQ below (hp_QI D cs B (fun r V' n' => n = n' ∧ V = V' ∧ (r.toInt = sp_wk ww0.toInt ww3.toInt ww4.toInt ww5.toInt ww6.toInt))) ([.ref (a)] : List Value).toArray s 0 0 (hp_F B)) (F0 m 43 ls [.int (tt2)]) := by
        intro V9 H9 locs9 ls  tt2  hZ hP  fr43  hi2 hv3 hl
        have hb_tt2 := hq_rng tt2
        subst fr43
        have jn57 : ∀ (V9 : hp_V) (H9 : Heap) (locs9 : List Loc) (ls : Array Slot)  (tt3 : Int32), hp_Z D cs B s V9 H9 n locs9 → hq_I cs G V9 → V = V9 → (sp_i2 ww5.toInt (-1) 1 (tt3.toInt - tt2.toInt)) → 0 ≤ tt3.toInt ∧ tt3.toInt ≤ 16 → lv_has ls 1 [(0, .ref (a))] → W p l e ({ frames := 1, cells := 0, slots := 0, locals := 21 }) s m ([.ref (a)] : List Value).toArray below meth c H9 locs9 0 0 (MQ below (hp_QI D cs B (fun r V' n' => n = n' ∧ V = V' ∧ (r.toInt = sp_wk ww0.toInt ww3.toInt ww4.toInt ww5.toInt ww6.toInt))) ([.ref (a)] : List Value).toArray s 0 0 (hp_F B)) (F0 m 57 ls [.int (tt3)]) := by
          intro V9 H9 locs9 ls  tt3  hZ hP  fr57  hi3 hv4 hl
          have hb_tt3 := hq_rng tt3
          subst fr57
          have jn71 : ∀ (V9 : hp_V) (H9 : Heap) (locs9 : List Loc) (ls : Array Slot)  (tt4 : Int32), hp_Z D cs B s V9 H9 n locs9 → hq_I cs G V9 → V = V9 → (sp_i2 ww6.toInt (-1) 1 (tt4.toInt - tt3.toInt)) → 0 ≤ tt4.toInt ∧ tt4.toInt ≤ 20 → lv_has ls 1 [(0, .ref (a))] → W p l e ({ frames := 1, cells := 0, slots := 0, locals := 21 }) s m ([.ref (a)] : List Value).toArray below meth c H9 locs9 0 0 (MQ below (hp_QI D cs B (fun r V' n' => n = n' ∧ V = V' ∧ (r.toInt = sp_wk ww0.toInt ww3.toInt ww4.toInt ww5.toInt ww6.toInt))) ([.ref (a)] : List Value).toArray s 0 0 (hp_F B)) (F0 m 71 ls [.int (tt4)]) := by
            intro V9 H9 locs9 ls  tt4  hZ hP  fr71  hi4 hv5 hl
            have hb_tt4 := hq_rng tt4
            subst fr71
            exact hp_iret hx hb hr hlocks hZ ⟨rfl, rfl, sp_wk_eq hi0 hi1 hi2 hi3 hi4 (by omega)⟩ dX10_changes_71
          refine lv_aload_n hx hb dX10_changes_57 rfl (lv_at hl 0 rfl) ?_
          refine hp_get (v := .int (ww6)) hx hb hts hown hZ hc0 fl_X10_30 rfl dX10_changes_58 ?_
          refine lv_iconst (v := -1) hx hb dX10_changes_61 (by decide) ?_
          refine lv_icmp_ne (tgt := 69) hx hb dX10_changes_62 (by decide) (fun c6 => ?_) (fun c6 => ?_)
          · have c6 : ¬ (ww6).toInt = (-1 : Int) := fun h9 => c6 (hq_eqi.mpr h9)
            refine lv_iconst (v := 1) hx hb dX10_changes_69 (by decide) ?_
            refine lv_iadd hx hb dX10_changes_70 ?_
            refine lv_topi (fun y7 ey8 => ?_)
            obtain ⟨k9, hk10, b11, b12⟩ := hq_add (tt3) (1)
            rw [← ey8] at hk10 b11 b12
            have hk10 : (y7).toInt = (tt3).toInt + (1 : Int) + k9 * 4294967296 := hk10
            obtain rfl : k9 = 0 := by omega
            exact jn71 _ _ _ ls  (y7) hZ hP rfl (by unfold sp_i2; omega) (by omega) (lv_sub hl [0] rfl)
          · have c6 : (ww6).toInt = (-1 : Int) := hq_eqi.mp c6
            refine lv_iconst (v := 0) hx hb dX10_changes_65 (by decide) ?_
            refine lv_goto (tgt := 70) hx hb dX10_changes_66 (by decide) ?_
            refine lv_iadd hx hb dX10_changes_70 ?_
            refine lv_topi (fun y13 ey14 => ?_)
            obtain ⟨k15, hk16, b17, b18⟩ := hq_add (tt3) (0)
            rw [← ey14] at hk16 b17 b18
            have hk16 : (y13).toInt = (tt3).toInt + (0 : Int) + k15 * 4294967296 := hk16
            obtain rfl : k15 = 0 := by omega
            exact jn71 _ _ _ ls  (y13) hZ hP rfl (by unfold sp_i2; omega) (by omega) (lv_sub hl [0] rfl)
        refine lv_aload_n hx hb dX10_changes_43 rfl (lv_at hl 0 rfl) ?_
        refine hp_get (v := .int (ww5)) hx hb hts hown hZ hc0 fl_X10_27 rfl dX10_changes_44 ?_
        refine lv_iconst (v := -1) hx hb dX10_changes_47 (by decide) ?_
        refine lv_icmp_ne (tgt := 55) hx hb dX10_changes_48 (by decide) (fun c19 => ?_) (fun c19 => ?_)
        · have c19 : ¬ (ww5).toInt = (-1 : Int) := fun h9 => c19 (hq_eqi.mpr h9)
          refine lv_iconst (v := 1) hx hb dX10_changes_55 (by decide) ?_
          refine lv_iadd hx hb dX10_changes_56 ?_
          refine lv_topi (fun y20 ey21 => ?_)
          obtain ⟨k22, hk23, b24, b25⟩ := hq_add (tt2) (1)
          rw [← ey21] at hk23 b24 b25
          have hk23 : (y20).toInt = (tt2).toInt + (1 : Int) + k22 * 4294967296 := hk23
          obtain rfl : k22 = 0 := by omega
          exact jn57 _ _ _ ls  (y20) hZ hP rfl (by unfold sp_i2; omega) (by omega) (lv_sub hl [0] rfl)
        · have c19 : (ww5).toInt = (-1 : Int) := hq_eqi.mp c19
          refine lv_iconst (v := 0) hx hb dX10_changes_51 (by decide) ?_
          refine lv_goto (tgt := 56) hx hb dX10_changes_52 (by decide) ?_
          refine lv_iadd hx hb dX10_changes_56 ?_
          refine lv_topi (fun y26 ey27 => ?_)
          obtain ⟨k28, hk29, b30, b31⟩ := hq_add (tt2) (0)
          rw [← ey27] at hk29 b30 b31
          have hk29 : (y26).toInt = (tt2).toInt + (0 : Int) + k28 * 4294967296 := hk29
          obtain rfl : k28 = 0 := by omega
          exact jn57 _ _ _ ls  (y26) hZ hP rfl (by unfold sp_i2; omega) (by omega) (lv_sub hl [0] rfl)
      refine lv_aload_n hx hb dX10_changes_28 rfl (lv_at hl 0 rfl) ?_
      refine hp_get (v := .int (ww4)) hx hb hts hown hZ hc0 fl_X10_24 rfl dX10_changes_29 ?_
      refine lv_bipush (v := -2) hx hb dX10_changes_32 (by decide) ?_
      refine lv_icmp_ne (tgt := 41) hx hb dX10_changes_34 (by decide) (fun c32 => ?_) (fun c32 => ?_)
      · have c32 : ¬ (ww4).toInt = (-2 : Int) := fun h9 => c32 (hq_eqi.mpr h9)
        refine lv_iconst (v := 1) hx hb dX10_changes_41 (by decide) ?_
        refine lv_iadd hx hb dX10_changes_42 ?_
        refine lv_topi (fun y33 ey34 => ?_)
        obtain ⟨k35, hk36, b37, b38⟩ := hq_add (tt1) (1)
        rw [← ey34] at hk36 b37 b38
        have hk36 : (y33).toInt = (tt1).toInt + (1 : Int) + k35 * 4294967296 := hk36
        obtain rfl : k35 = 0 := by omega
        exact jn43 _ _ _ ls  (y33) hZ hP rfl (by unfold sp_i2; omega) (by omega) (lv_sub hl [0] rfl)
      · have c32 : (ww4).toInt = (-2 : Int) := hq_eqi.mp c32
        refine lv_iconst (v := 0) hx hb dX10_changes_37 (by decide) ?_
        refine lv_goto (tgt := 42) hx hb dX10_changes_38 (by decide) ?_
        refine lv_iadd hx hb dX10_changes_42 ?_
        refine lv_topi (fun y39 ey40 => ?_)
        obtain ⟨k41, hk42, b43, b44⟩ := hq_add (tt1) (0)
        rw [← ey40] at hk42 b43 b44
        have hk42 : (y39).toInt = (tt1).toInt + (0 : Int) + k41 * 4294967296 := hk42
        obtain rfl : k41 = 0 := by omega
        exact jn43 _ _ _ ls  (y39) hZ hP rfl (by unfold sp_i2; omega) (by omega) (lv_sub hl [0] rfl)
    refine lv_aload_n hx hb dX10_changes_13 rfl (lv_at hl 0 rfl) ?_
    refine hp_get (v := .int (ww3)) hx hb hts hown hZ hc0 fl_X10_21 rfl dX10_changes_14 ?_
    refine lv_bipush (v := -2) hx hb dX10_changes_17 (by decide) ?_
    refine lv_icmp_ne (tgt := 26) hx hb dX10_changes_19 (by decide) (fun c45 => ?_) (fun c45 => ?_)
    · have c45 : ¬ (ww3).toInt = (-2 : Int) := fun h9 => c45 (hq_eqi.mpr h9)
      refine lv_iconst (v := 1) hx hb dX10_changes_26 (by decide) ?_
      refine lv_iadd hx hb dX10_changes_27 ?_
      refine lv_topi (fun y46 ey47 => ?_)
      obtain ⟨k48, hk49, b50, b51⟩ := hq_add (tt0) (1)
      rw [← ey47] at hk49 b50 b51
      have hk49 : (y46).toInt = (tt0).toInt + (1 : Int) + k48 * 4294967296 := hk49
      obtain rfl : k48 = 0 := by omega
      exact jn28 _ _ _ ls  (y46) hZ hP rfl (by unfold sp_i2; omega) (by omega) (lv_sub hl [0] rfl)
    · have c45 : (ww3).toInt = (-2 : Int) := hq_eqi.mp c45
      refine lv_iconst (v := 0) hx hb dX10_changes_22 (by decide) ?_
      refine lv_goto (tgt := 27) hx hb dX10_changes_23 (by decide) ?_
      refine lv_iadd hx hb dX10_changes_27 ?_
      refine lv_topi (fun y52 ey53 => ?_)
      obtain ⟨k54, hk55, b56, b57⟩ := hq_add (tt0) (0)
      rw [← ey53] at hk55 b56 b57
      have hk55 : (y52).toInt = (tt0).toInt + (0 : Int) + k54 * 4294967296 := hk55
      obtain rfl : k54 = 0 := by omega
      exact jn28 _ _ _ ls  (y52) hZ hP rfl (by unfold sp_i2; omega) (by omega) (lv_sub hl [0] rfl)
  refine lv_aload_n hx hb dX10_changes_0 rfl (lv_at hl 0 rfl) ?_
  refine hp_get (v := .int (ww0)) hx hb hts hown hZ hc0 fl_X10_9 rfl dX10_changes_1 ?_
  refine lv_iconst (v := -1) hx hb dX10_changes_4 (by decide) ?_
  refine lv_icmp_ne (tgt := 12) hx hb dX10_changes_5 (by decide) (fun c58 => ?_) (fun c58 => ?_)
  · have c58 : ¬ (ww0).toInt = (-1 : Int) := fun h9 => c58 (hq_eqi.mpr h9)
    refine lv_iconst (v := 1) hx hb dX10_changes_12 (by decide) ?_
    have hl59 : (1 : Int32).toInt = 1 := by decide
    exact jn13 _ _ _ ls  (1) hZ hP rfl (by unfold sp_i2; omega) (by omega) (lv_sub hl [0] rfl)
  · have c58 : (ww0).toInt = (-1 : Int) := hq_eqi.mp c58
    refine lv_iconst (v := 0) hx hb dX10_changes_8 (by decide) ?_
    refine lv_goto (tgt := 13) hx hb dX10_changes_9 (by decide) ?_
    have hl60 : (0 : Int32).toInt = 0 := by decide
    exact jn13 _ _ _ ls  (0) hZ hP rfl (by unfold sp_i2; omega) (by omega) (lv_sub hl [0] rfl)

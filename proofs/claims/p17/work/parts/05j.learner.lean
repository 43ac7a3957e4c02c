set_option maxHeartbeats 4000000 in
set_option maxRecDepth 100000 in
theorem t_X4_forget (l : Launch) (D : va_G) (cs : Nat → ClassId) (B : Nat) (G : hq_G) (V : hp_V) (n : Nat) (hI : hq_I cs G V) (t : Nat) (h_t : G t = some (9, 0, 0, 0)) : hp_M l yX4_forget cX4_forget 2 none ({ frames := 1, cells := 0, slots := 0, locals := 21 }) D cs B V n [.ref (t)] (hp_QV D cs B (fun V' n' => n = n' ∧ hq_P cs G (fun g => g.1 == 0) V V')) 0 0 := by
  refine hp_walk (R0 := RX4) (by decide) rfl ?_ (Nat.le_of_ble_eq_true rfl)
  intro p e s m below meth c ls hx hb hr hts hown hlocks hin hml hZ hl
  have hP : hq_P cs G (fun g => g.1 == 0) V V := hq_P.rf hI
  have hl : lv_has ls 2 [(0, .ref (t))] := hl
  refine lv_iconst (v := 0) hx hb dX4_forget_0 (by decide) ?_
  refine lv_istore_n (lv' := [(1, .int (0)), (0, .ref (t))]) hx hb dX4_forget_1 rfl hl (by decide) rfl (fun ls hl => ?_)
  have hl1 : (0 : Int32).toInt = 0 := by decide
  suffices lp2 : ∀ (k9 : Nat) (V9 : hp_V) (H9 : Heap) (locs9 : List Loc) (ls : Array Slot) (i : Int32), (100 - i.toInt).toNat = k9 → hp_Z D cs B s V9 H9 n locs9 → hq_P cs G (fun g => g.1 == 0) V V9 → 0 ≤ i.toInt → i.toInt ≤ 60 → lv_has ls 2 [(1, .int (i)), (0, .ref (t))] → W p l e ({ frames := 1, cells := 0, slots := 0, locals := 21 }) s m ([.ref (t)] : List Value).toArray below meth c H9 locs9 0 0 (MQ below (hp_QV D cs B (fun V' n' => n = n' ∧ hq_P cs G (fun g => g.1 == 0) V V')) ([.ref (t)] : List Value).toArray s 0 0 (hp_F B)) (F0 m 2 ls []) from lp2 _ _ _ _ ls (0) rfl hZ hP (by omega) (by omega) (lv_sub hl [0, 1] rfl)
  intro k9
  induction k9 using Nat.strongRecOn with
  | _ k9 ih2 =>
    intro V9 H9 locs9 ls i  hk2 hZ hP  hv2 hv3 hl
    have hb_i := hq_rng i
    have hP_2 := hP
    refine lv_iload_n hx hb dX4_forget_2 rfl (lv_at hl 0 rfl) ?_
    refine lv_bipush (v := 60) hx hb dX4_forget_3 (by decide) ?_
    refine lv_icmp_ge (tgt := 21) hx hb dX4_forget_5 (by decide) (fun c4 => ?_) (fun c4 => ?_)
    · have c4 : (60 : Int) ≤ (i).toInt := hq_lei.mp c4
      refine lv_iconst (v := 0) hx hb dX4_forget_21 (by decide) ?_
      refine lv_istore_n (lv' := [(1, .int (0)), (0, .ref (t))]) hx hb dX4_forget_22 rfl hl (by decide) rfl (fun ls hl => ?_)
      have hl5 : (0 : Int32).toInt = 0 := by decide
      suffices lp23 : ∀ (k9 : Nat) (V9 : hp_V) (H9 : Heap) (locs9 : List Loc) (ls : Array Slot) (i : Int32), (100 - i.toInt).toNat = k9 → hp_Z D cs B s V9 H9 n locs9 → hq_P cs G (fun g => g.1 == 0) V V9 → 0 ≤ i.toInt → i.toInt ≤ 3 → lv_has ls 2 [(1, .int (i)), (0, .ref (t))] → W p l e ({ frames := 1, cells := 0, slots := 0, locals := 21 }) s m ([.ref (t)] : List Value).toArray below meth c H9 locs9 0 0 (MQ below (hp_QV D cs B (fun V' n' => n = n' ∧ hq_P cs G (fun g => g.1 == 0) V V')) ([.ref (t)] : List Value).toArray s 0 0 (hp_F B)) (F0 m 23 ls []) from lp23 _ _ _ _ ls (0) rfl hZ hP (by omega) (by omega) (lv_sub hl [0, 1] rfl)
      intro k9
      induction k9 using Nat.strongRecOn with
      | _ k9 ih23 =>
        intro V9 H9 locs9 ls i  hk23 hZ hP  hv6 hv7 hl
        have hb_i := hq_rng i
        have hP_23 := hP
        refine lv_iload_n hx hb dX4_forget_23 rfl (lv_at hl 0 rfl) ?_
        refine lv_iconst (v := 3) hx hb dX4_forget_24 (by decide) ?_
        refine lv_icmp_ge (tgt := 41) hx hb dX4_forget_25 (by decide) (fun c8 => ?_) (fun c8 => ?_)
        · have c8 : (3 : Int) ≤ (i).toInt := hq_lei.mp c8
          exact hp_vret hx hb hr hlocks hZ ⟨rfl, hP⟩ dX4_forget_41
        · have c8 : ¬ (3 : Int) ≤ (i).toInt := fun h9 => c8 (hq_lei.mpr h9)
          refine lv_aload_n hx hb dX4_forget_28 rfl (lv_at hl 1 rfl) ?_
          obtain ⟨u10, u11, eV9, hu12, hu13⟩ := hq_o9 hP.1 h_t
          refine hp_get (v := .ref (u11)) hx hb hts hown hZ eV9 fl_X4_15 rfl dX4_forget_29 ?_
          refine lv_iload_n hx hb dX4_forget_32 rfl (lv_at hl 0 rfl) ?_
          refine lv_iconst (v := -1) hx hb dX4_forget_33 (by decide) ?_
          obtain ⟨hN16, g15, eV14, hf17⟩ := hq_o2 hP.1 hu13
          refine hp_iast hx hb hZ eV14 (hq_in (by omega) (by omega)) dX4_forget_34 (fun V18 _ _ e19 o20 hZ => ?_)
          have e19 : V18 (u11) = some (.inl (cs 1, 3, .inl (upd (g15) ((i : Int32).toNatClampNeg) (-1)))) := e19
          have hl21 : (-1 : Int32).toInt = -1 := by decide
          have hP := hP.put hu13 e19 o20 (hq_c2 (by omega) (hq_upd hf17 (hq_rng _))) rfl
          obtain ⟨y22, ey23⟩ : ∃ y : Int32, y = i + (1) := ⟨_, rfl⟩
          obtain ⟨k24, hk25, b26, b27⟩ := hq_add (i) (1)
          rw [← ey23] at hk25 b26 b27
          have hk25 : (y22).toInt = (i).toInt + (1) + k24 * 4294967296 := hk25
          refine lv_iinc (v := y22) (lv' := [(1, .int (y22)), (0, .ref (t))]) hx hb dX4_forget_35 hl (k := 0) rfl (by rw [ey23]; rfl) (by decide) rfl (fun ls hl => ?_)
          refine lv_goto (tgt := 23) hx hb dX4_forget_38 (by decide) ?_
          exact ih23 _ (by omega) _ _ _ ls (y22) rfl hZ hP (by omega) (by omega) (lv_sub hl [0, 1] rfl)
    · have c4 : ¬ (60 : Int) ≤ (i).toInt := fun h9 => c4 (hq_lei.mpr h9)
      refine lv_aload_n hx hb dX4_forget_8 rfl (lv_at hl 1 rfl) ?_
      obtain ⟨u29, u30, eV28, hu31, hu32⟩ := hq_o9 hP.1 h_t
      refine hp_get (v := .ref (u29)) hx hb hts hown hZ eV28 fl_X4_9 rfl dX4_forget_9 ?_
      refine lv_iload_n hx hb dX4_forget_12 rfl (lv_at hl 0 rfl) ?_
      refine lv_iconst (v := 0) hx hb dX4_forget_13 (by decide) ?_
      obtain ⟨hN35, g34, eV33, hf36⟩ := hq_o2 hP.1 hu31
      refine hp_iast hx hb hZ eV33 (hq_in (by omega) (by omega)) dX4_forget_14 (fun V37 _ _ e38 o39 hZ => ?_)
      have e38 : V37 (u29) = some (.inl (cs 1, 60, .inl (upd (g34) ((i : Int32).toNatClampNeg) (0)))) := e38
      have hl40 : (0 : Int32).toInt = 0 := by decide
      have hP := hP.put hu31 e38 o39 (hq_c2 (by omega) (hq_upd hf36 (hq_rng _))) rfl
      obtain ⟨y41, ey42⟩ : ∃ y : Int32, y = i + (1) := ⟨_, rfl⟩
      obtain ⟨k43, hk44, b45, b46⟩ := hq_add (i) (1)
      rw [← ey42] at hk44 b45 b46
      have hk44 : (y41).toInt = (i).toInt + (1) + k43 * 4294967296 := hk44
      refine lv_iinc (v := y41) (lv' := [(1, .int (y41)), (0, .ref (t))]) hx hb dX4_forget_15 hl (k := 0) rfl (by rw [ey42]; rfl) (by decide) rfl (fun ls hl => ?_)
      refine lv_goto (tgt := 2) hx hb dX4_forget_18 (by decide) ?_
      exact ih2 _ (by omega) _ _ _ ls (y41) rfl hZ hP (by omega) (by omega) (lv_sub hl [0, 1] rfl)

set_option maxHeartbeats 4000000 in
set_option maxRecDepth 100000 in
theorem t_X4_notePlace (l : Launch) (D : va_G) (cs : Nat → ClassId) (B : Nat) (G : hq_G) (V : hp_V) (n : Nat) (hI : hq_I cs G V) (t : Nat) (h_t : G t = some (9, 0, 0, 0)) (k : Int32) : hp_M l yX4_notePlace cX4_notePlace 2 none ({ frames := 1, cells := 0, slots := 0, locals := 21 }) D cs B V n [.ref (t), .int (k)] (hp_QV D cs B (fun V' n' => n = n' ∧ hq_P cs G (fun g => g.1 == 0) V V')) 0 0 := by
  refine hp_walk (R0 := RX4) (by decide) rfl ?_ (Nat.le_of_ble_eq_true rfl)
  intro p e s m below meth c ls hx hb hr hts hown hlocks hin hml hZ hl
  have hP : hq_P cs G (fun g => g.1 == 0) V V := hq_P.rf hI
  have hl : lv_has ls 2 [(0, .ref (t)), (1, .int (k))] := hl
  have hb_k := hq_rng k
  refine lv_aload_n hx hb dX4_notePlace_0 rfl (lv_at hl 0 rfl) ?_
  obtain ⟨u2, u3, eV1, hu4, hu5⟩ := hq_o9 hP.1 h_t
  refine hp_get (v := .ref (u3)) hx hb hts hown hZ eV1 fl_X4_15 rfl dX4_notePlace_1 ?_
  refine lv_iconst (v := 2) hx hb dX4_notePlace_4 (by decide) ?_
  refine lv_aload_n hx hb dX4_notePlace_5 rfl (lv_at hl 0 rfl) ?_
  refine hp_get (v := .ref (u3)) hx hb hts hown hZ eV1 fl_X4_15 rfl dX4_notePlace_6 ?_
  refine lv_iconst (v := 1) hx hb dX4_notePlace_9 (by decide) ?_
  obtain ⟨hN8, g7, eV6, hf9⟩ := hq_o2 hP.1 hu5
  refine hp_iald hx hb hZ eV6 (by unfold vp_in; decide) dX4_notePlace_10 ?_
  refine lv_topi (fun y10 ey11 => ?_)
  have b12 := hq_rng y10
  refine hp_iast hx hb hZ eV6 (by unfold vp_in; decide) dX4_notePlace_11 (fun V13 _ _ e14 o15 hZ => ?_)
  have e14 : V13 (u3) = some (.inl (cs 1, 3, .inl (upd (g7) ((2 : Int32).toNatClampNeg) (y10)))) := e14
  have hP := hP.put hu5 e14 o15 (hq_c2 (by omega) (hq_upd hf9 (hq_rng _))) rfl
  refine lv_aload_n hx hb dX4_notePlace_12 rfl (lv_at hl 0 rfl) ?_
  have fx16 : V13 (t) = some (.inr (4, [.ref (u2), .ref (u3)])) := (o15 (t) (hq_tne h_t hu5 (by simp))).trans (eV1)
  refine hp_get (v := .ref (u3)) hx hb hts hown hZ fx16 fl_X4_15 rfl dX4_notePlace_13 ?_
  refine lv_iconst (v := 1) hx hb dX4_notePlace_16 (by decide) ?_
  refine lv_aload_n hx hb dX4_notePlace_17 rfl (lv_at hl 0 rfl) ?_
  refine hp_get (v := .ref (u3)) hx hb hts hown hZ fx16 fl_X4_15 rfl dX4_notePlace_18 ?_
  refine lv_iconst (v := 0) hx hb dX4_notePlace_21 (by decide) ?_
  obtain ⟨hN19, g18, eV17, hf20⟩ := hq_o2 hP.1 hu5
  refine hp_iald hx hb hZ eV17 (by unfold vp_in; decide) dX4_notePlace_22 ?_
  refine lv_topi (fun y21 ey22 => ?_)
  have b23 := hq_rng y21
  refine hp_iast hx hb hZ eV17 (by unfold vp_in; decide) dX4_notePlace_23 (fun V24 _ _ e25 o26 hZ => ?_)
  have e25 : V24 (u3) = some (.inl (cs 1, 3, .inl (upd (g18) ((1 : Int32).toNatClampNeg) (y21)))) := e25
  have hP := hP.put hu5 e25 o26 (hq_c2 (by omega) (hq_upd hf20 (hq_rng _))) rfl
  refine lv_aload_n hx hb dX4_notePlace_24 rfl (lv_at hl 0 rfl) ?_
  have fx27 : V24 (t) = some (.inr (4, [.ref (u2), .ref (u3)])) := (o26 (t) (hq_tne h_t hu5 (by simp))).trans (fx16)
  refine hp_get (v := .ref (u3)) hx hb hts hown hZ fx27 fl_X4_15 rfl dX4_notePlace_25 ?_
  refine lv_iconst (v := 0) hx hb dX4_notePlace_28 (by decide) ?_
  refine lv_iload_n hx hb dX4_notePlace_29 rfl (lv_at hl 1 rfl) ?_
  obtain ⟨hN30, g29, eV28, hf31⟩ := hq_o2 hP.1 hu5
  refine hp_iast hx hb hZ eV28 (by unfold vp_in; decide) dX4_notePlace_30 (fun V32 _ _ e33 o34 hZ => ?_)
  have e33 : V32 (u3) = some (.inl (cs 1, 3, .inl (upd (g29) ((0 : Int32).toNatClampNeg) (k)))) := e33
  have hP := hP.put hu5 e33 o34 (hq_c2 (by omega) (hq_upd hf31 (hq_rng _))) rfl
  exact hp_vret hx hb hr hlocks hZ ⟨rfl, hP⟩ dX4_notePlace_31

set_option maxHeartbeats 4000000 in
set_option maxRecDepth 100000 in
theorem t_X4_hasJustAnswered (l : Launch) (D : va_G) (cs : Nat → ClassId) (B : Nat) (G : hq_G) (V : hp_V) (n : Nat) (hI : hq_I cs G V) (t : Nat) (h_t : G t = some (9, 0, 0, 0)) (k : Int32) : hp_M l yX4_hasJustAnswered cX4_hasJustAnswered 2 (some .boolean) ({ frames := 1, cells := 0, slots := 0, locals := 21 }) D cs B V n [.ref (t), .int (k)] (hp_QI D cs B (fun r V' n' => n = n' ∧ hq_P cs G (fun _ => false) V V' ∧ (0 ≤ r.toInt ∧ r.toInt ≤ 1))) 0 0 := by
  refine hp_walk (R0 := RX4) (by decide) rfl ?_ (Nat.le_of_ble_eq_true rfl)
  intro p e s m below meth c ls hx hb hr hts hown hlocks hin hml hZ hl
  have hP : hq_P cs G (fun _ => false) V V := hq_P.rf hI
  have hl : lv_has ls 2 [(0, .ref (t)), (1, .int (k))] := hl
  have hb_k := hq_rng k
  refine lv_aload_n hx hb dX4_hasJustAnswered_0 rfl (lv_at hl 0 rfl) ?_
  obtain ⟨u2, u3, eV1, hu4, hu5⟩ := hq_o9 hP.1 h_t
  refine hp_get (v := .ref (u3)) hx hb hts hown hZ eV1 fl_X4_15 rfl dX4_hasJustAnswered_1 ?_
  refine lv_iconst (v := 0) hx hb dX4_hasJustAnswered_4 (by decide) ?_
  obtain ⟨hN8, g7, eV6, hf9⟩ := hq_o2 hP.1 hu5
  refine hp_iald hx hb hZ eV6 (by unfold vp_in; decide) dX4_hasJustAnswered_5 ?_
  refine lv_topi (fun y10 ey11 => ?_)
  have b12 := hq_rng y10
  refine lv_iload_n hx hb dX4_hasJustAnswered_6 rfl (lv_at hl 1 rfl) ?_
  refine lv_icmp_eq (tgt := 30) hx hb dX4_hasJustAnswered_7 (by decide) (fun c13 => ?_) (fun c13 => ?_)
  · have c13 : (y10).toInt = (k).toInt := hq_eqi.mp c13
    refine lv_iconst (v := 1) hx hb dX4_hasJustAnswered_30 (by decide) ?_
    refine lv_goto (tgt := 35) hx hb dX4_hasJustAnswered_31 (by decide) ?_
    exact hp_zret hx hb hr rfl hlocks hZ ⟨rfl, hP, (by decide)⟩ dX4_hasJustAnswered_35
  · have c13 : ¬ (y10).toInt = (k).toInt := fun h9 => c13 (hq_eqi.mpr h9)
    refine lv_aload_n hx hb dX4_hasJustAnswered_10 rfl (lv_at hl 0 rfl) ?_
    refine hp_get (v := .ref (u3)) hx hb hts hown hZ eV1 fl_X4_15 rfl dX4_hasJustAnswered_11 ?_
    refine lv_iconst (v := 1) hx hb dX4_hasJustAnswered_14 (by decide) ?_
    refine hp_iald hx hb hZ eV6 (by unfold vp_in; decide) dX4_hasJustAnswered_15 ?_
    refine lv_topi (fun y14 ey15 => ?_)
    have b16 := hq_rng y14
    refine lv_iload_n hx hb dX4_hasJustAnswered_16 rfl (lv_at hl 1 rfl) ?_
    refine lv_icmp_eq (tgt := 30) hx hb dX4_hasJustAnswered_17 (by decide) (fun c17 => ?_) (fun c17 => ?_)
    · have c17 : (y14).toInt = (k).toInt := hq_eqi.mp c17
      refine lv_iconst (v := 1) hx hb dX4_hasJustAnswered_30 (by decide) ?_
      refine lv_goto (tgt := 35) hx hb dX4_hasJustAnswered_31 (by decide) ?_
      exact hp_zret hx hb hr rfl hlocks hZ ⟨rfl, hP, (by decide)⟩ dX4_hasJustAnswered_35
    · have c17 : ¬ (y14).toInt = (k).toInt := fun h9 => c17 (hq_eqi.mpr h9)
      refine lv_aload_n hx hb dX4_hasJustAnswered_20 rfl (lv_at hl 0 rfl) ?_
      refine hp_get (v := .ref (u3)) hx hb hts hown hZ eV1 fl_X4_15 rfl dX4_hasJustAnswered_21 ?_
      refine lv_iconst (v := 2) hx hb dX4_hasJustAnswered_24 (by decide) ?_
      refine hp_iald hx hb hZ eV6 (by unfold vp_in; decide) dX4_hasJustAnswered_25 ?_
      refine lv_topi (fun y18 ey19 => ?_)
      have b20 := hq_rng y18
      refine lv_iload_n hx hb dX4_hasJustAnswered_26 rfl (lv_at hl 1 rfl) ?_
      refine lv_icmp_ne (tgt := 34) hx hb dX4_hasJustAnswered_27 (by decide) (fun c21 => ?_) (fun c21 => ?_)
      · have c21 : ¬ (y18).toInt = (k).toInt := fun h9 => c21 (hq_eqi.mpr h9)
        refine lv_iconst (v := 0) hx hb dX4_hasJustAnswered_34 (by decide) ?_
        exact hp_zret hx hb hr rfl hlocks hZ ⟨rfl, hP, (by decide)⟩ dX4_hasJustAnswered_35
      · have c21 : (y18).toInt = (k).toInt := hq_eqi.mp c21
        refine lv_iconst (v := 1) hx hb dX4_hasJustAnswered_30 (by decide) ?_
        refine lv_goto (tgt := 35) hx hb dX4_hasJustAnswered_31 (by decide) ?_
        exact hp_zret hx hb hr rfl hlocks hZ ⟨rfl, hP, (by decide)⟩ dX4_hasJustAnswered_35

set_option maxHeartbeats 4000000 in
set_option maxRecDepth 100000 in
theorem t_X4_ease (l : Launch) (D : va_G) (cs : Nat → ClassId) (B : Nat) (G : hq_G) (V : hp_V) (n : Nat) (hI : hq_I cs G V) (t : Nat) (h_t : G t = some (9, 0, 0, 0)) (k : Int64) : hp_M l yX4_ease cX4_ease 4 none ({ frames := 1, cells := 0, slots := 0, locals := 21 }) D cs B V n [.ref (t), .long (k)] (hp_QV D cs B (fun V' n' => n = n' ∧ hq_P cs G (fun g => g.1 == 0) V V')) 0 0 := by
  refine hp_walk (R0 := RX4) (by decide) rfl ?_ (Nat.le_of_ble_eq_true rfl)
  intro p e s m below meth c ls hx hb hr hts hown hlocks hin hml hZ hl
  have hP : hq_P cs G (fun g => g.1 == 0) V V := hq_P.rf hI
  have hl : lv_has ls 4 [(0, .ref (t)), (1, .long (k))] := hl
  refine lv_iconst (v := 0) hx hb dX4_ease_0 (by decide) ?_
  refine lv_istore_n (lv' := [(3, .int (0)), (0, .ref (t)), (1, .long (k))]) hx hb dX4_ease_1 rfl hl (by decide) rfl (fun ls hl => ?_)
  have hl1 : (0 : Int32).toInt = 0 := by decide
  suffices lp2 : ∀ (k9 : Nat) (V9 : hp_V) (H9 : Heap) (locs9 : List Loc) (ls : Array Slot) (i : Int32), (100 - i.toInt).toNat = k9 → hp_Z D cs B s V9 H9 n locs9 → hq_P cs G (fun g => g.1 == 0) V V9 → 0 ≤ i.toInt → i.toInt ≤ 60 → lv_has ls 4 [(3, .int (i)), (0, .ref (t)), (1, .long (k))] → W p l e ({ frames := 1, cells := 0, slots := 0, locals := 21 }) s m ([.ref (t), .long (k)] : List Value).toArray below meth c H9 locs9 0 0 (MQ below (hp_QV D cs B (fun V' n' => n = n' ∧ hq_P cs G (fun g => g.1 == 0) V V')) ([.ref (t), .long (k)] : List Value).toArray s 0 0 (hp_F B)) (F0 m 2 ls []) from lp2 _ _ _ _ ls (0) rfl hZ hP (by omega) (by omega) (lv_sub hl [0, 1, 2] rfl)
  intro k9
  induction k9 using Nat.strongRecOn with
  | _ k9 ih2 =>
    intro V9 H9 locs9 ls i  hk2 hZ hP  hv2 hv3 hl
    have hb_i := hq_rng i
    have hP_2 := hP
    refine lv_iload_n hx hb dX4_ease_2 rfl (lv_at hl 0 rfl) ?_
    refine lv_bipush (v := 60) hx hb dX4_ease_3 (by decide) ?_
    refine lv_icmp_ge (tgt := 43) hx hb dX4_ease_5 (by decide) (fun c4 => ?_) (fun c4 => ?_)
    · have c4 : (60 : Int) ≤ (i).toInt := hq_lei.mp c4
      exact hp_vret hx hb hr hlocks hZ ⟨rfl, hP⟩ dX4_ease_43
    · have c4 : ¬ (60 : Int) ≤ (i).toInt := fun h9 => c4 (hq_lei.mpr h9)
      refine lv_lload_n hx hb dX4_ease_8 rfl (lv_at hl 2 rfl) ?_
      refine lv_iload_n hx hb dX4_ease_9 rfl (lv_at hl 0 rfl) ?_
      refine lv_lushr (v := ((k : Int64).toUInt64 >>> ((i : Int32).toInt64.toUInt64 &&& Int64.toUInt64 63)).toInt64) hx hb dX4_ease_10 rfl ?_
      refine lv_topl (fun y5 ey6 => ?_)
      refine lv_lconst (v := 1) hx hb dX4_ease_11 (by decide) ?_
      refine lv_land hx hb dX4_ease_12 ?_
      refine lv_topl (fun y7 ey8 => ?_)
      refine lv_lconst (v := 0) hx hb dX4_ease_13 (by decide) ?_
      refine W.lcmp hx hb dX4_ease_14 ?_
      refine lv_topi (fun y9 ey10 => ?_)
      have b11 := hq_rng y9
      refine lv_if_eq (tgt := 37) hx hb dX4_ease_15 (by decide) (fun c12 => ?_) (fun c12 => ?_)
      · have c12 : (y9).toInt = (0 : Int) := hq_eqi.mp c12
        obtain ⟨y13, ey14⟩ : ∃ y : Int32, y = i + (1) := ⟨_, rfl⟩
        obtain ⟨k15, hk16, b17, b18⟩ := hq_add (i) (1)
        rw [← ey14] at hk16 b17 b18
        have hk16 : (y13).toInt = (i).toInt + (1) + k15 * 4294967296 := hk16
        refine lv_iinc (v := y13) (lv' := [(3, .int (y13)), (0, .ref (t)), (1, .long (k))]) hx hb dX4_ease_37 hl (k := 0) rfl (by rw [ey14]; rfl) (by decide) rfl (fun ls hl => ?_)
        refine lv_goto (tgt := 2) hx hb dX4_ease_40 (by decide) ?_
        exact ih2 _ (by omega) _ _ _ ls (y13) rfl hZ hP (by omega) (by omega) (lv_sub hl [0, 1, 2] rfl)
      · have c12 : ¬ (y9).toInt = (0 : Int) := fun h9 => c12 (hq_eqi.mpr h9)
        refine lv_aload_n hx hb dX4_ease_18 rfl (lv_at hl 1 rfl) ?_
        obtain ⟨u20, u21, eV19, hu22, hu23⟩ := hq_o9 hP.1 h_t
        refine hp_get (v := .ref (u20)) hx hb hts hown hZ eV19 fl_X4_9 rfl dX4_ease_19 ?_
        refine lv_iload_n hx hb dX4_ease_22 rfl (lv_at hl 0 rfl) ?_
        obtain ⟨hN26, g25, eV24, hf27⟩ := hq_o2 hP.1 hu22
        refine hp_iald hx hb hZ eV24 (hq_in (by omega) (by omega)) dX4_ease_23 ?_
        refine lv_topi (fun y28 ey29 => ?_)
        have b30 := hq_rng y28
        refine lv_if_le (tgt := 37) hx hb dX4_ease_24 (by decide) (fun c31 => ?_) (fun c31 => ?_)
        · have c31 : (y28).toInt ≤ (0 : Int) := hq_lei.mp c31
          obtain ⟨y32, ey33⟩ : ∃ y : Int32, y = i + (1) := ⟨_, rfl⟩
          obtain ⟨k34, hk35, b36, b37⟩ := hq_add (i) (1)
          rw [← ey33] at hk35 b36 b37
          have hk35 : (y32).toInt = (i).toInt + (1) + k34 * 4294967296 := hk35
          refine lv_iinc (v := y32) (lv' := [(3, .int (y32)), (0, .ref (t)), (1, .long (k))]) hx hb dX4_ease_37 hl (k := 0) rfl (by rw [ey33]; rfl) (by decide) rfl (fun ls hl => ?_)
          refine lv_goto (tgt := 2) hx hb dX4_ease_40 (by decide) ?_
          exact ih2 _ (by omega) _ _ _ ls (y32) rfl hZ hP (by omega) (by omega) (lv_sub hl [0, 1, 2] rfl)
        · have c31 : ¬ (y28).toInt ≤ (0 : Int) := fun h9 => c31 (hq_lei.mpr h9)
          refine lv_aload_n hx hb dX4_ease_27 rfl (lv_at hl 1 rfl) ?_
          refine hp_get (v := .ref (u20)) hx hb hts hown hZ eV19 fl_X4_9 rfl dX4_ease_28 ?_
          refine lv_iload_n hx hb dX4_ease_31 rfl (lv_at hl 0 rfl) ?_
          refine lv_dup2_11 hx hb dX4_ease_32 rfl rfl ?_
          refine hp_iald hx hb hZ eV24 (hq_in (by omega) (by omega)) dX4_ease_33 ?_
          refine lv_topi (fun y38 ey39 => ?_)
          have b40 := hq_rng y38
          refine lv_iconst (v := 1) hx hb dX4_ease_34 (by decide) ?_
          refine lv_isub hx hb dX4_ease_35 ?_
          refine lv_topi (fun y41 ey42 => ?_)
          obtain ⟨k43, hk44, b45, b46⟩ := hq_sub (y38) (1)
          rw [← ey42] at hk44 b45 b46
          have hk44 : (y41).toInt = (y38).toInt - (1 : Int) + k43 * 4294967296 := hk44
          refine hp_iast hx hb hZ eV24 (hq_in (by omega) (by omega)) dX4_ease_36 (fun V47 _ _ e48 o49 hZ => ?_)
          have e48 : V47 (u20) = some (.inl (cs 1, 60, .inl (upd (g25) ((i : Int32).toNatClampNeg) (y41)))) := e48
          have hP := hP.put hu22 e48 o49 (hq_c2 (by omega) (hq_upd hf27 (hq_rng _))) rfl
          obtain ⟨y50, ey51⟩ : ∃ y : Int32, y = i + (1) := ⟨_, rfl⟩
          obtain ⟨k52, hk53, b54, b55⟩ := hq_add (i) (1)
          rw [← ey51] at hk53 b54 b55
          have hk53 : (y50).toInt = (i).toInt + (1) + k52 * 4294967296 := hk53
          refine lv_iinc (v := y50) (lv' := [(3, .int (y50)), (0, .ref (t)), (1, .long (k))]) hx hb dX4_ease_37 hl (k := 0) rfl (by rw [ey51]; rfl) (by decide) rfl (fun ls hl => ?_)
          refine lv_goto (tgt := 2) hx hb dX4_ease_40 (by decide) ?_
          exact ih2 _ (by omega) _ _ _ ls (y50) rfl hZ hP (by omega) (by omega) (lv_sub hl [0, 1, 2] rfl)

set_option maxHeartbeats 4000000 in
set_option maxRecDepth 100000 in
theorem t_X4_miss (l : Launch) (D : va_G) (cs : Nat → ClassId) (B : Nat) (G : hq_G) (V : hp_V) (n : Nat) (hI : hq_I cs G V) (t : Nat) (h_t : G t = some (9, 0, 0, 0)) (k : Int64) : hp_M l yX4_miss cX4_miss 4 none ({ frames := 1, cells := 0, slots := 0, locals := 21 }) D cs B V n [.ref (t), .long (k)] (hp_QV D cs B (fun V' n' => n = n' ∧ hq_P cs G (fun g => g.1 == 0) V V')) 0 0 := by
  refine hp_walk (R0 := RX4) (by decide) rfl ?_ (Nat.le_of_ble_eq_true rfl)
  intro p e s m below meth c ls hx hb hr hts hown hlocks hin hml hZ hl
  have hP : hq_P cs G (fun g => g.1 == 0) V V := hq_P.rf hI
  have hl : lv_has ls 4 [(0, .ref (t)), (1, .long (k))] := hl
  refine lv_iconst (v := 0) hx hb dX4_miss_0 (by decide) ?_
  refine lv_istore_n (lv' := [(3, .int (0)), (0, .ref (t)), (1, .long (k))]) hx hb dX4_miss_1 rfl hl (by decide) rfl (fun ls hl => ?_)
  have hl1 : (0 : Int32).toInt = 0 := by decide
  suffices lp2 : ∀ (k9 : Nat) (V9 : hp_V) (H9 : Heap) (locs9 : List Loc) (ls : Array Slot) (i : Int32), (100 - i.toInt).toNat = k9 → hp_Z D cs B s V9 H9 n locs9 → hq_P cs G (fun g => g.1 == 0) V V9 → 0 ≤ i.toInt → i.toInt ≤ 60 → lv_has ls 4 [(3, .int (i)), (0, .ref (t)), (1, .long (k))] → W p l e ({ frames := 1, cells := 0, slots := 0, locals := 21 }) s m ([.ref (t), .long (k)] : List Value).toArray below meth c H9 locs9 0 0 (MQ below (hp_QV D cs B (fun V' n' => n = n' ∧ hq_P cs G (fun g => g.1 == 0) V V')) ([.ref (t), .long (k)] : List Value).toArray s 0 0 (hp_F B)) (F0 m 2 ls []) from lp2 _ _ _ _ ls (0) rfl hZ hP (by omega) (by omega) (lv_sub hl [0, 1, 2] rfl)
  intro k9
  induction k9 using Nat.strongRecOn with
  | _ k9 ih2 =>
    intro V9 H9 locs9 ls i  hk2 hZ hP  hv2 hv3 hl
    have hb_i := hq_rng i
    have hP_2 := hP
    refine lv_iload_n hx hb dX4_miss_2 rfl (lv_at hl 0 rfl) ?_
    refine lv_bipush (v := 60) hx hb dX4_miss_3 (by decide) ?_
    refine lv_icmp_ge (tgt := 45) hx hb dX4_miss_5 (by decide) (fun c4 => ?_) (fun c4 => ?_)
    · have c4 : (60 : Int) ≤ (i).toInt := hq_lei.mp c4
      exact hp_vret hx hb hr hlocks hZ ⟨rfl, hP⟩ dX4_miss_45
    · have c4 : ¬ (60 : Int) ≤ (i).toInt := fun h9 => c4 (hq_lei.mpr h9)
      refine lv_lload_n hx hb dX4_miss_8 rfl (lv_at hl 2 rfl) ?_
      refine lv_iload_n hx hb dX4_miss_9 rfl (lv_at hl 0 rfl) ?_
      refine lv_lushr (v := ((k : Int64).toUInt64 >>> ((i : Int32).toInt64.toUInt64 &&& Int64.toUInt64 63)).toInt64) hx hb dX4_miss_10 rfl ?_
      refine lv_topl (fun y5 ey6 => ?_)
      refine lv_lconst (v := 1) hx hb dX4_miss_11 (by decide) ?_
      refine lv_land hx hb dX4_miss_12 ?_
      refine lv_topl (fun y7 ey8 => ?_)
      refine lv_lconst (v := 0) hx hb dX4_miss_13 (by decide) ?_
      refine W.lcmp hx hb dX4_miss_14 ?_
      refine lv_topi (fun y9 ey10 => ?_)
      have b11 := hq_rng y9
      refine lv_if_eq (tgt := 39) hx hb dX4_miss_15 (by decide) (fun c12 => ?_) (fun c12 => ?_)
      · have c12 : (y9).toInt = (0 : Int) := hq_eqi.mp c12
        obtain ⟨y13, ey14⟩ : ∃ y : Int32, y = i + (1) := ⟨_, rfl⟩
        obtain ⟨k15, hk16, b17, b18⟩ := hq_add (i) (1)
        rw [← ey14] at hk16 b17 b18
        have hk16 : (y13).toInt = (i).toInt + (1) + k15 * 4294967296 := hk16
        refine lv_iinc (v := y13) (lv' := [(3, .int (y13)), (0, .ref (t)), (1, .long (k))]) hx hb dX4_miss_39 hl (k := 0) rfl (by rw [ey14]; rfl) (by decide) rfl (fun ls hl => ?_)
        refine lv_goto (tgt := 2) hx hb dX4_miss_42 (by decide) ?_
        exact ih2 _ (by omega) _ _ _ ls (y13) rfl hZ hP (by omega) (by omega) (lv_sub hl [0, 1, 2] rfl)
      · have c12 : ¬ (y9).toInt = (0 : Int) := fun h9 => c12 (hq_eqi.mpr h9)
        refine lv_aload_n hx hb dX4_miss_18 rfl (lv_at hl 1 rfl) ?_
        obtain ⟨u20, u21, eV19, hu22, hu23⟩ := hq_o9 hP.1 h_t
        refine hp_get (v := .ref (u20)) hx hb hts hown hZ eV19 fl_X4_9 rfl dX4_miss_19 ?_
        refine lv_iload_n hx hb dX4_miss_22 rfl (lv_at hl 0 rfl) ?_
        obtain ⟨hN26, g25, eV24, hf27⟩ := hq_o2 hP.1 hu22
        refine hp_iald hx hb hZ eV24 (hq_in (by omega) (by omega)) dX4_miss_23 ?_
        refine lv_topi (fun y28 ey29 => ?_)
        have b30 := hq_rng y28
        refine lv_bipush (v := 99) hx hb dX4_miss_24 (by decide) ?_
        refine lv_icmp_ge (tgt := 39) hx hb dX4_miss_26 (by decide) (fun c31 => ?_) (fun c31 => ?_)
        · have c31 : (99 : Int) ≤ (y28).toInt := hq_lei.mp c31
          obtain ⟨y32, ey33⟩ : ∃ y : Int32, y = i + (1) := ⟨_, rfl⟩
          obtain ⟨k34, hk35, b36, b37⟩ := hq_add (i) (1)
          rw [← ey33] at hk35 b36 b37
          have hk35 : (y32).toInt = (i).toInt + (1) + k34 * 4294967296 := hk35
          refine lv_iinc (v := y32) (lv' := [(3, .int (y32)), (0, .ref (t)), (1, .long (k))]) hx hb dX4_miss_39 hl (k := 0) rfl (by rw [ey33]; rfl) (by decide) rfl (fun ls hl => ?_)
          refine lv_goto (tgt := 2) hx hb dX4_miss_42 (by decide) ?_
          exact ih2 _ (by omega) _ _ _ ls (y32) rfl hZ hP (by omega) (by omega) (lv_sub hl [0, 1, 2] rfl)
        · have c31 : ¬ (99 : Int) ≤ (y28).toInt := fun h9 => c31 (hq_lei.mpr h9)
          refine lv_aload_n hx hb dX4_miss_29 rfl (lv_at hl 1 rfl) ?_
          refine hp_get (v := .ref (u20)) hx hb hts hown hZ eV19 fl_X4_9 rfl dX4_miss_30 ?_
          refine lv_iload_n hx hb dX4_miss_33 rfl (lv_at hl 0 rfl) ?_
          refine lv_dup2_11 hx hb dX4_miss_34 rfl rfl ?_
          refine hp_iald hx hb hZ eV24 (hq_in (by omega) (by omega)) dX4_miss_35 ?_
          refine lv_topi (fun y38 ey39 => ?_)
          have b40 := hq_rng y38
          refine lv_iconst (v := 1) hx hb dX4_miss_36 (by decide) ?_
          refine lv_iadd hx hb dX4_miss_37 ?_
          refine lv_topi (fun y41 ey42 => ?_)
          obtain ⟨k43, hk44, b45, b46⟩ := hq_add (y38) (1)
          rw [← ey42] at hk44 b45 b46
          have hk44 : (y41).toInt = (y38).toInt + (1 : Int) + k43 * 4294967296 := hk44
          refine hp_iast hx hb hZ eV24 (hq_in (by omega) (by omega)) dX4_miss_38 (fun V47 _ _ e48 o49 hZ => ?_)
          have e48 : V47 (u20) = some (.inl (cs 1, 60, .inl (upd (g25) ((i : Int32).toNatClampNeg) (y41)))) := e48
          have hP := hP.put hu22 e48 o49 (hq_c2 (by omega) (hq_upd hf27 (hq_rng _))) rfl
          obtain ⟨y50, ey51⟩ : ∃ y : Int32, y = i + (1) := ⟨_, rfl⟩
          obtain ⟨k52, hk53, b54, b55⟩ := hq_add (i) (1)
          rw [← ey51] at hk53 b54 b55
          have hk53 : (y50).toInt = (i).toInt + (1) + k52 * 4294967296 := hk53
          refine lv_iinc (v := y50) (lv' := [(3, .int (y50)), (0, .ref (t)), (1, .long (k))]) hx hb dX4_miss_39 hl (k := 0) rfl (by rw [ey51]; rfl) (by decide) rfl (fun ls hl => ?_)
          refine lv_goto (tgt := 2) hx hb dX4_miss_42 (by decide) ?_
          exact ih2 _ (by omega) _ _ _ ls (y50) rfl hZ hP (by omega) (by omega) (lv_sub hl [0, 1, 2] rfl)

set_option maxHeartbeats 4000000 in
set_option maxRecDepth 100000 in
theorem t_X4_sumOf (l : Launch) (D : va_G) (cs : Nat → ClassId) (B : Nat) (G : hq_G) (V : hp_V) (n : Nat) (hI : hq_I cs G V) (t : Nat) (h_t : G t = some (9, 0, 0, 0)) (k : Int64) : hp_M l yX4_sumOf cX4_sumOf 5 (some .int) ({ frames := 1, cells := 0, slots := 0, locals := 21 }) D cs B V n [.ref (t), .long (k)] (hp_QI D cs B (fun r V' n' => n = n' ∧ hq_P cs G (fun _ => false) V V' ∧ True)) 0 0 := by
  refine hp_walk (R0 := RX4) (by decide) rfl ?_ (Nat.le_of_ble_eq_true rfl)
  intro p e s m below meth c ls hx hb hr hts hown hlocks hin hml hZ hl
  have hP : hq_P cs G (fun _ => false) V V := hq_P.rf hI
  have hl : lv_has ls 5 [(0, .ref (t)), (1, .long (k))] := hl
  refine lv_iconst (v := 0) hx hb dX4_sumOf_0 (by decide) ?_
  refine lv_istore_n (lv' := [(3, .int (0)), (0, .ref (t)), (1, .long (k))]) hx hb dX4_sumOf_1 rfl hl (by decide) rfl (fun ls hl => ?_)
  refine lv_iconst (v := 0) hx hb dX4_sumOf_2 (by decide) ?_
  refine lv_istore (lv' := [(4, .int (0)), (3, .int (0)), (0, .ref (t)), (1, .long (k))]) hx hb dX4_sumOf_3 hl (by decide) rfl (fun ls hl => ?_)
  have hl1 : (0 : Int32).toInt = 0 := by decide
  have hl2 : (0 : Int32).toInt = 0 := by decide
  suffices lp5 : ∀ (k9 : Nat) (V9 : hp_V) (H9 : Heap) (locs9 : List Loc) (ls : Array Slot) (sum : Int32) (i : Int32), (100 - i.toInt).toNat = k9 → hp_Z D cs B s V9 H9 n locs9 → hq_P cs G (fun _ => false) V V9 → 0 ≤ i.toInt → i.toInt ≤ 60 → lv_has ls 5 [(4, .int (i)), (3, .int (sum)), (0, .ref (t)), (1, .long (k))] → W p l e ({ frames := 1, cells := 0, slots := 0, locals := 21 }) s m ([.ref (t), .long (k)] : List Value).toArray below meth c H9 locs9 0 0 (MQ below (hp_QI D cs B (fun r V' n' => n = n' ∧ hq_P cs G (fun _ => false) V V' ∧ True)) ([.ref (t), .long (k)] : List Value).toArray s 0 0 (hp_F B)) (F0 m 5 ls []) from lp5 _ _ _ _ ls (0) (0) rfl hZ hP (by omega) (by omega) (lv_sub hl [0, 1, 2, 3] rfl)
  intro k9
  induction k9 using Nat.strongRecOn with
  | _ k9 ih5 =>
    intro V9 H9 locs9 ls sum i  hk5 hZ hP  hv3 hv4 hl
    have hb_sum := hq_rng sum
    have hb_i := hq_rng i
    have hP_5 := hP
    refine lv_iload hx hb dX4_sumOf_5 (lv_at hl 0 rfl) ?_
    refine lv_bipush (v := 60) hx hb dX4_sumOf_7 (by decide) ?_
    refine lv_icmp_ge (tgt := 39) hx hb dX4_sumOf_9 (by decide) (fun c5 => ?_) (fun c5 => ?_)
    · have c5 : (60 : Int) ≤ (i).toInt := hq_lei.mp c5
      refine lv_iload_n hx hb dX4_sumOf_39 rfl (lv_at hl 1 rfl) ?_
      exact hp_iret hx hb hr hlocks hZ ⟨rfl, hP, trivial⟩ dX4_sumOf_40
    · have c5 : ¬ (60 : Int) ≤ (i).toInt := fun h9 => c5 (hq_lei.mpr h9)
      refine lv_lload_n hx hb dX4_sumOf_12 rfl (lv_at hl 3 rfl) ?_
      refine lv_iload hx hb dX4_sumOf_13 (lv_at hl 0 rfl) ?_
      refine lv_lushr (v := ((k : Int64).toUInt64 >>> ((i : Int32).toInt64.toUInt64 &&& Int64.toUInt64 63)).toInt64) hx hb dX4_sumOf_15 rfl ?_
      refine lv_topl (fun y6 ey7 => ?_)
      refine lv_lconst (v := 1) hx hb dX4_sumOf_16 (by decide) ?_
      refine lv_land hx hb dX4_sumOf_17 ?_
      refine lv_topl (fun y8 ey9 => ?_)
      refine lv_lconst (v := 0) hx hb dX4_sumOf_18 (by decide) ?_
      refine W.lcmp hx hb dX4_sumOf_19 ?_
      refine lv_topi (fun y10 ey11 => ?_)
      have b12 := hq_rng y10
      refine lv_if_eq (tgt := 33) hx hb dX4_sumOf_20 (by decide) (fun c13 => ?_) (fun c13 => ?_)
      · have c13 : (y10).toInt = (0 : Int) := hq_eqi.mp c13
        obtain ⟨y14, ey15⟩ : ∃ y : Int32, y = i + (1) := ⟨_, rfl⟩
        obtain ⟨k16, hk17, b18, b19⟩ := hq_add (i) (1)
        rw [← ey15] at hk17 b18 b19
        have hk17 : (y14).toInt = (i).toInt + (1) + k16 * 4294967296 := hk17
        refine lv_iinc (v := y14) (lv' := [(4, .int (y14)), (3, .int (sum)), (0, .ref (t)), (1, .long (k))]) hx hb dX4_sumOf_33 hl (k := 0) rfl (by rw [ey15]; rfl) (by decide) rfl (fun ls hl => ?_)
        refine lv_goto (tgt := 5) hx hb dX4_sumOf_36 (by decide) ?_
        exact ih5 _ (by omega) _ _ _ ls (sum) (y14) rfl hZ hP (by omega) (by omega) (lv_sub hl [0, 1, 2, 3] rfl)
      · have c13 : ¬ (y10).toInt = (0 : Int) := fun h9 => c13 (hq_eqi.mpr h9)
        refine lv_iload_n hx hb dX4_sumOf_23 rfl (lv_at hl 1 rfl) ?_
        refine lv_aload_n hx hb dX4_sumOf_24 rfl (lv_at hl 2 rfl) ?_
        obtain ⟨u21, u22, eV20, hu23, hu24⟩ := hq_o9 hP.1 h_t
        refine hp_get (v := .ref (u21)) hx hb hts hown hZ eV20 fl_X4_9 rfl dX4_sumOf_25 ?_
        refine lv_iload hx hb dX4_sumOf_28 (lv_at hl 0 rfl) ?_
        obtain ⟨hN27, g26, eV25, hf28⟩ := hq_o2 hP.1 hu23
        refine hp_iald hx hb hZ eV25 (hq_in (by omega) (by omega)) dX4_sumOf_30 ?_
        refine lv_topi (fun y29 ey30 => ?_)
        have b31 := hq_rng y29
        refine lv_iadd hx hb dX4_sumOf_31 ?_
        refine lv_topi (fun y32 ey33 => ?_)
        obtain ⟨k34, hk35, b36, b37⟩ := hq_add (sum) (y29)
        rw [← ey33] at hk35 b36 b37
        have hk35 : (y32).toInt = (sum).toInt + (y29).toInt + k34 * 4294967296 := hk35
        refine lv_istore_n (lv' := [(3, .int (y32)), (4, .int (i)), (0, .ref (t)), (1, .long (k))]) hx hb dX4_sumOf_32 rfl hl (by decide) rfl (fun ls hl => ?_)
        obtain ⟨y38, ey39⟩ : ∃ y : Int32, y = i + (1) := ⟨_, rfl⟩
        obtain ⟨k40, hk41, b42, b43⟩ := hq_add (i) (1)
        rw [← ey39] at hk41 b42 b43
        have hk41 : (y38).toInt = (i).toInt + (1) + k40 * 4294967296 := hk41
        refine lv_iinc (v := y38) (lv' := [(4, .int (y38)), (3, .int (y32)), (0, .ref (t)), (1, .long (k))]) hx hb dX4_sumOf_33 hl (k := 1) rfl (by rw [ey39]; rfl) (by decide) rfl (fun ls hl => ?_)
        refine lv_goto (tgt := 5) hx hb dX4_sumOf_36 (by decide) ?_
        exact ih5 _ (by omega) _ _ _ ls (y32) (y38) rfl hZ hP (by omega) (by omega) (lv_sub hl [0, 1, 2, 3] rfl)

set_option maxHeartbeats 4000000 in
set_option maxRecDepth 100000 in
theorem t_X8_hasForm (l : Launch) (D : va_G) (cs : Nat → ClassId) (B : Nat) (G : hq_G) (V : hp_V) (n : Nat) (hI : hq_I cs G V) (t : Nat) (h_t : G t = some (12, 0, 0, 0)) (k : Int32) (hk0 : 0 ≤ k.toInt) (hk1 : k.toInt < 900) : hp_M l yX8_hasForm cX8_hasForm 2 (some .boolean) ({ frames := 1, cells := 0, slots := 0, locals := 21 }) D cs B V n [.ref (t), .int (k)] (hp_QI D cs B (fun r V' n' => n = n' ∧ hq_P cs G (fun _ => false) V V' ∧ (0 ≤ r.toInt ∧ r.toInt ≤ 1))) 0 0 := by
  refine hp_walk (R0 := RX8) (by decide) rfl ?_ (Nat.le_of_ble_eq_true rfl)
  intro p e s m below meth c ls hx hb hr hts hown hlocks hin hml hZ hl
  have hP : hq_P cs G (fun _ => false) V V := hq_P.rf hI
  have hl : lv_has ls 2 [(0, .ref (t)), (1, .int (k))] := hl
  have hb_k := hq_rng k
  refine lv_aload_n hx hb dX8_hasForm_0 rfl (lv_at hl 0 rfl) ?_
  obtain ⟨z2, u3, u4, u5, eV1, hu6, hu7, hu8⟩ := hq_o12 hP.1 h_t
  refine hp_get (v := .ref (u5)) hx hb hts hown hZ eV1 fl_X8_18 rfl dX8_hasForm_1 ?_
  refine lv_iload_n hx hb dX8_hasForm_4 rfl (lv_at hl 1 rfl) ?_
  obtain ⟨hN11, g10, eV9⟩ := hq_o3 hP.1 hu8
  refine hp_lald hx hb hZ eV9 (hq_in (by omega) (by omega)) dX8_hasForm_5 ?_
  refine lv_topl (fun y13 ey14 => ?_)
  refine lv_lconst (v := 0) hx hb dX8_hasForm_6 (by decide) ?_
  refine W.lcmp hx hb dX8_hasForm_7 ?_
  refine lv_topi (fun y15 ey16 => ?_)
  have b17 := hq_rng y15
  refine lv_if_eq (tgt := 15) hx hb dX8_hasForm_8 (by decide) (fun c18 => ?_) (fun c18 => ?_)
  · have c18 : (y15).toInt = (0 : Int) := hq_eqi.mp c18
    refine lv_iconst (v := 0) hx hb dX8_hasForm_15 (by decide) ?_
    exact hp_zret hx hb hr rfl hlocks hZ ⟨rfl, hP, (by decide)⟩ dX8_hasForm_16
  · have c18 : ¬ (y15).toInt = (0 : Int) := fun h9 => c18 (hq_eqi.mpr h9)
    refine lv_iconst (v := 1) hx hb dX8_hasForm_11 (by decide) ?_
    refine lv_goto (tgt := 16) hx hb dX8_hasForm_12 (by decide) ?_
    exact hp_zret hx hb hr rfl hlocks hZ ⟨rfl, hP, (by decide)⟩ dX8_hasForm_16

set_option maxHeartbeats 4000000 in
set_option maxRecDepth 100000 in
theorem t_X8_mayHave (l : Launch) (D : va_G) (cs : Nat → ClassId) (B : Nat) (G : hq_G) (V : hp_V) (n : Nat) (hI : hq_I cs G V) (t : Nat) (h_t : G t = some (12, 0, 0, 0)) (k : Int32) (mk : Int64) (hk0 : 0 ≤ k.toInt) (hk1 : k.toInt < 900) : hp_M l yX8_mayHave cX8_mayHave 4 (some .boolean) ({ frames := 1, cells := 0, slots := 0, locals := 21 }) D cs B V n [.ref (t), .int (k), .long (mk)] (hp_QI D cs B (fun r V' n' => n = n' ∧ hq_P cs G (fun _ => false) V V' ∧ (0 ≤ r.toInt ∧ r.toInt ≤ 1))) 0 0 := by
  refine hp_walk (R0 := RX8) (by decide) rfl ?_ (Nat.le_of_ble_eq_true rfl)
  intro p e s m below meth c ls hx hb hr hts hown hlocks hin hml hZ hl
  have hP : hq_P cs G (fun _ => false) V V := hq_P.rf hI
  have hl : lv_has ls 4 [(0, .ref (t)), (1, .int (k)), (2, .long (mk))] := hl
  have hb_k := hq_rng k
  refine lv_aload_n hx hb dX8_mayHave_0 rfl (lv_at hl 0 rfl) ?_
  obtain ⟨z2, u3, u4, u5, eV1, hu6, hu7, hu8⟩ := hq_o12 hP.1 h_t
  refine hp_get (v := .ref (u5)) hx hb hts hown hZ eV1 fl_X8_18 rfl dX8_mayHave_1 ?_
  refine lv_iload_n hx hb dX8_mayHave_4 rfl (lv_at hl 1 rfl) ?_
  obtain ⟨hN11, g10, eV9⟩ := hq_o3 hP.1 hu8
  refine hp_lald hx hb hZ eV9 (hq_in (by omega) (by omega)) dX8_mayHave_5 ?_
  refine lv_topl (fun y13 ey14 => ?_)
  refine lv_lload_n hx hb dX8_mayHave_6 rfl (lv_at hl 2 rfl) ?_
  refine lv_land hx hb dX8_mayHave_7 ?_
  refine lv_topl (fun y15 ey16 => ?_)
  refine lv_lconst (v := 0) hx hb dX8_mayHave_8 (by decide) ?_
  refine W.lcmp hx hb dX8_mayHave_9 ?_
  refine lv_topi (fun y17 ey18 => ?_)
  have b19 := hq_rng y17
  refine lv_if_eq (tgt := 17) hx hb dX8_mayHave_10 (by decide) (fun c20 => ?_) (fun c20 => ?_)
  · have c20 : (y17).toInt = (0 : Int) := hq_eqi.mp c20
    refine lv_iconst (v := 0) hx hb dX8_mayHave_17 (by decide) ?_
    exact hp_zret hx hb hr rfl hlocks hZ ⟨rfl, hP, (by decide)⟩ dX8_mayHave_18
  · have c20 : ¬ (y17).toInt = (0 : Int) := fun h9 => c20 (hq_eqi.mpr h9)
    refine lv_iconst (v := 1) hx hb dX8_mayHave_13 (by decide) ?_
    refine lv_goto (tgt := 18) hx hb dX8_mayHave_14 (by decide) ?_
    exact hp_zret hx hb hr rfl hlocks hZ ⟨rfl, hP, (by decide)⟩ dX8_mayHave_18

set_option maxHeartbeats 4000000 in
set_option maxRecDepth 100000 in
theorem t_X8_linesUsed (l : Launch) (D : va_G) (cs : Nat → ClassId) (B : Nat) (G : hq_G) (V : hp_V) (n : Nat) (hI : hq_I cs G V) (t : Nat) (h_t : G t = some (12, 0, 0, 0)) (k : Int32) (hk1 : k.toInt ≤ 900) : hp_M l yX8_linesUsed cX8_linesUsed 5 (some .long) ({ frames := 1, cells := 0, slots := 0, locals := 21 }) D cs B V n [.ref (t), .int (k)] (hp_QL D cs B (fun r V' n' => n = n' ∧ hq_P cs G (fun _ => false) V V' ∧ True)) 0 0 := by
  refine hp_walk (R0 := RX8) (by decide) rfl ?_ (Nat.le_of_ble_eq_true rfl)
  intro p e s m below meth c ls hx hb hr hts hown hlocks hin hml hZ hl
  have hP : hq_P cs G (fun _ => false) V V := hq_P.rf hI
  have hl : lv_has ls 5 [(0, .ref (t)), (1, .int (k))] := hl
  have hb_k := hq_rng k
  refine lv_lconst (v := 0) hx hb dX8_linesUsed_0 (by decide) ?_
  refine lv_lstore_n (lv' := [(2, .long (0)), (0, .ref (t)), (1, .int (k))]) hx hb dX8_linesUsed_1 rfl hl (by decide) rfl (fun ls hl => ?_)
  refine lv_iconst (v := 0) hx hb dX8_linesUsed_2 (by decide) ?_
  refine lv_istore (lv' := [(4, .int (0)), (2, .long (0)), (0, .ref (t)), (1, .int (k))]) hx hb dX8_linesUsed_3 hl (by decide) rfl (fun ls hl => ?_)
  have hl1 : (0 : Int32).toInt = 0 := by decide
  suffices lp5 : ∀ (k9 : Nat) (V9 : hp_V) (H9 : Heap) (locs9 : List Loc) (ls : Array Slot) (bits : Int64) (i : Int32), (1000 - i.toInt).toNat = k9 → hp_Z D cs B s V9 H9 n locs9 → hq_P cs G (fun _ => false) V V9 → 0 ≤ i.toInt → i.toInt ≤ 900 → lv_has ls 5 [(4, .int (i)), (2, .long (bits)), (0, .ref (t)), (1, .int (k))] → W p l e ({ frames := 1, cells := 0, slots := 0, locals := 21 }) s m ([.ref (t), .int (k)] : List Value).toArray below meth c H9 locs9 0 0 (MQ below (hp_QL D cs B (fun r V' n' => n = n' ∧ hq_P cs G (fun _ => false) V V' ∧ True)) ([.ref (t), .int (k)] : List Value).toArray s 0 0 (hp_F B)) (F0 m 5 ls []) from lp5 _ _ _ _ ls (0) (0) rfl hZ hP (by omega) (by omega) (lv_sub hl [0, 1, 2, 3] rfl)
  intro k9
  induction k9 using Nat.strongRecOn with
  | _ k9 ih5 =>
    intro V9 H9 locs9 ls bits i  hk5 hZ hP  hv2 hv3 hl
    have hb_i := hq_rng i
    have hP_5 := hP
    refine lv_iload hx hb dX8_linesUsed_5 (lv_at hl 0 rfl) ?_
    refine lv_iload_n hx hb dX8_linesUsed_7 rfl (lv_at hl 3 rfl) ?_
    refine lv_icmp_ge (tgt := 27) hx hb dX8_linesUsed_8 (by decide) (fun c4 => ?_) (fun c4 => ?_)
    · have c4 : (k).toInt ≤ (i).toInt := hq_lei.mp c4
      refine lv_lload_n hx hb dX8_linesUsed_27 rfl (lv_at hl 1 rfl) ?_
      exact hp_lret hx hb hr hlocks hZ ⟨rfl, hP, trivial⟩ dX8_linesUsed_28
    · have c4 : ¬ (k).toInt ≤ (i).toInt := fun h9 => c4 (hq_lei.mpr h9)
      refine lv_lload_n hx hb dX8_linesUsed_11 rfl (lv_at hl 1 rfl) ?_
      refine lv_aload_n hx hb dX8_linesUsed_12 rfl (lv_at hl 2 rfl) ?_
      obtain ⟨z6, u7, u8, u9, eV5, hu10, hu11, hu12⟩ := hq_o12 hP.1 h_t
      refine hp_get (v := .ref (u8)) hx hb hts hown hZ eV5 fl_X8_15 rfl dX8_linesUsed_13 ?_
      refine lv_iload hx hb dX8_linesUsed_16 (lv_at hl 0 rfl) ?_
      obtain ⟨hN15, g14, eV13⟩ := hq_o3 hP.1 hu11
      refine hp_lald hx hb hZ eV13 (hq_in (by omega) (by omega)) dX8_linesUsed_18 ?_
      refine lv_topl (fun y17 ey18 => ?_)
      refine lv_lor hx hb dX8_linesUsed_19 ?_
      refine lv_topl (fun y19 ey20 => ?_)
      refine lv_lstore_n (lv' := [(2, .long (y19)), (4, .int (i)), (0, .ref (t)), (1, .int (k))]) hx hb dX8_linesUsed_20 rfl hl (by decide) rfl (fun ls hl => ?_)
      obtain ⟨y21, ey22⟩ : ∃ y : Int32, y = i + (1) := ⟨_, rfl⟩
      obtain ⟨k23, hk24, b25, b26⟩ := hq_add (i) (1)
      rw [← ey22] at hk24 b25 b26
      have hk24 : (y21).toInt = (i).toInt + (1) + k23 * 4294967296 := hk24
      refine lv_iinc (v := y21) (lv' := [(4, .int (y21)), (2, .long (y19)), (0, .ref (t)), (1, .int (k))]) hx hb dX8_linesUsed_21 hl (k := 1) rfl (by rw [ey22]; rfl) (by decide) rfl (fun ls hl => ?_)
      refine lv_goto (tgt := 5) hx hb dX8_linesUsed_24 (by decide) ?_
      exact ih5 _ (by omega) _ _ _ ls (y19) (y21) rfl hZ hP (by omega) (by omega) (lv_sub hl [0, 1, 2, 3] rfl)

set_option maxHeartbeats 4000000 in
set_option maxRecDepth 100000 in
theorem t_X8_placesUsing (l : Launch) (D : va_G) (cs : Nat → ClassId) (B : Nat) (G : hq_G) (V : hp_V) (n : Nat) (hI : hq_I cs G V) (t : Nat) (h_t : G t = some (12, 0, 0, 0)) (j : Int32) (k : Int32) (hk1 : k.toInt ≤ 900) : hp_M l yX8_placesUsing cX8_placesUsing 5 (some .int) ({ frames := 1, cells := 0, slots := 0, locals := 21 }) D cs B V n [.ref (t), .int (j), .int (k)] (hp_QI D cs B (fun r V' n' => n = n' ∧ hq_P cs G (fun _ => false) V V' ∧ True)) 0 0 := by
  refine hp_walk (R0 := RX8) (by decide) rfl ?_ (Nat.le_of_ble_eq_true rfl)
  intro p e s m below meth c ls hx hb hr hts hown hlocks hin hml hZ hl
  have hP : hq_P cs G (fun _ => false) V V := hq_P.rf hI
  have hl : lv_has ls 5 [(0, .ref (t)), (1, .int (j)), (2, .int (k))] := hl
  have hb_j := hq_rng j
  have hb_k := hq_rng k
  refine lv_iconst (v := 0) hx hb dX8_placesUsing_0 (by decide) ?_
  refine lv_istore_n (lv' := [(3, .int (0)), (0, .ref (t)), (1, .int (j)), (2, .int (k))]) hx hb dX8_placesUsing_1 rfl hl (by decide) rfl (fun ls hl => ?_)
  refine lv_iconst (v := 0) hx hb dX8_placesUsing_2 (by decide) ?_
  refine lv_istore (lv' := [(4, .int (0)), (3, .int (0)), (0, .ref (t)), (1, .int (j)), (2, .int (k))]) hx hb dX8_placesUsing_3 hl (by decide) rfl (fun ls hl => ?_)
  have hl1 : (0 : Int32).toInt = 0 := by decide
  have hl2 : (0 : Int32).toInt = 0 := by decide
  suffices lp5 : ∀ (k9 : Nat) (V9 : hp_V) (H9 : Heap) (locs9 : List Loc) (ls : Array Slot) (sum : Int32) (i : Int32), (1000 - i.toInt).toNat = k9 → hp_Z D cs B s V9 H9 n locs9 → hq_P cs G (fun _ => false) V V9 → 0 ≤ i.toInt → i.toInt ≤ 900 → lv_has ls 5 [(4, .int (i)), (3, .int (sum)), (0, .ref (t)), (1, .int (j)), (2, .int (k))] → W p l e ({ frames := 1, cells := 0, slots := 0, locals := 21 }) s m ([.ref (t), .int (j), .int (k)] : List Value).toArray below meth c H9 locs9 0 0 (MQ below (hp_QI D cs B (fun r V' n' => n = n' ∧ hq_P cs G (fun _ => false) V V' ∧ True)) ([.ref (t), .int (j), .int (k)] : List Value).toArray s 0 0 (hp_F B)) (F0 m 5 ls []) from lp5 _ _ _ _ ls (0) (0) rfl hZ hP (by omega) (by omega) (lv_sub hl [0, 1, 2, 3, 4] rfl)
  intro k9
  induction k9 using Nat.strongRecOn with
  | _ k9 ih5 =>
    intro V9 H9 locs9 ls sum i  hk5 hZ hP  hv3 hv4 hl
    have hb_sum := hq_rng sum
    have hb_i := hq_rng i
    have hP_5 := hP
    refine lv_iload hx hb dX8_placesUsing_5 (lv_at hl 0 rfl) ?_
    refine lv_iload_n hx hb dX8_placesUsing_7 rfl (lv_at hl 4 rfl) ?_
    refine lv_icmp_ge (tgt := 32) hx hb dX8_placesUsing_8 (by decide) (fun c5 => ?_) (fun c5 => ?_)
    · have c5 : (k).toInt ≤ (i).toInt := hq_lei.mp c5
      refine lv_iload_n hx hb dX8_placesUsing_32 rfl (lv_at hl 1 rfl) ?_
      exact hp_iret hx hb hr hlocks hZ ⟨rfl, hP, trivial⟩ dX8_placesUsing_33
    · have c5 : ¬ (k).toInt ≤ (i).toInt := fun h9 => c5 (hq_lei.mpr h9)
      refine lv_iload_n hx hb dX8_placesUsing_11 rfl (lv_at hl 1 rfl) ?_
      refine lv_aload_n hx hb dX8_placesUsing_12 rfl (lv_at hl 2 rfl) ?_
      obtain ⟨z7, u8, u9, u10, eV6, hu11, hu12, hu13⟩ := hq_o12 hP.1 h_t
      refine hp_get (v := .ref (u9)) hx hb hts hown hZ eV6 fl_X8_15 rfl dX8_placesUsing_13 ?_
      refine lv_iload hx hb dX8_placesUsing_16 (lv_at hl 0 rfl) ?_
      obtain ⟨hN16, g15, eV14⟩ := hq_o3 hP.1 hu12
      refine hp_lald hx hb hZ eV14 (hq_in (by omega) (by omega)) dX8_placesUsing_18 ?_
      refine lv_topl (fun y18 ey19 => ?_)
      refine lv_iload_n hx hb dX8_placesUsing_19 rfl (lv_at hl 3 rfl) ?_
      refine lv_lushr (v := ((y18 : Int64).toUInt64 >>> ((j : Int32).toInt64.toUInt64 &&& Int64.toUInt64 63)).toInt64) hx hb dX8_placesUsing_20 rfl ?_
      refine lv_topl (fun y20 ey21 => ?_)
      refine lv_lconst (v := 1) hx hb dX8_placesUsing_21 (by decide) ?_
      refine lv_land hx hb dX8_placesUsing_22 ?_
      refine lv_topl (fun y22 ey23 => ?_)
      refine lv_l2i (v := (y22).toInt32) hx hb dX8_placesUsing_23 rfl ?_
      refine lv_topi (fun y24 ey25 => ?_)
      have b26 := hq_rng y24
      refine lv_iadd hx hb dX8_placesUsing_24 ?_
      refine lv_topi (fun y27 ey28 => ?_)
      obtain ⟨k29, hk30, b31, b32⟩ := hq_add (sum) (y24)
      rw [← ey28] at hk30 b31 b32
      have hk30 : (y27).toInt = (sum).toInt + (y24).toInt + k29 * 4294967296 := hk30
      refine lv_istore_n (lv' := [(3, .int (y27)), (4, .int (i)), (0, .ref (t)), (1, .int (j)), (2, .int (k))]) hx hb dX8_placesUsing_25 rfl hl (by decide) rfl (fun ls hl => ?_)
      obtain ⟨y33, ey34⟩ : ∃ y : Int32, y = i + (1) := ⟨_, rfl⟩
      obtain ⟨k35, hk36, b37, b38⟩ := hq_add (i) (1)
      rw [← ey34] at hk36 b37 b38
      have hk36 : (y33).toInt = (i).toInt + (1) + k35 * 4294967296 := hk36
      refine lv_iinc (v := y33) (lv' := [(4, .int (y33)), (3, .int (y27)), (0, .ref (t)), (1, .int (j)), (2, .int (k))]) hx hb dX8_placesUsing_26 hl (k := 1) rfl (by rw [ey34]; rfl) (by decide) rfl (fun ls hl => ?_)
      refine lv_goto (tgt := 5) hx hb dX8_placesUsing_29 (by decide) ?_
      exact ih5 _ (by omega) _ _ _ ls (y27) (y33) rfl hZ hP (by omega) (by omega) (lv_sub hl [0, 1, 2, 3, 4] rfl)

set_option maxHeartbeats 4000000 in
set_option maxRecDepth 100000 in
theorem x_at (l : Launch) (D : va_G) (cs : Nat → ClassId) (B : Nat) (G : hq_G) (V : hp_V) (n : Nat) (hI : hq_I cs G V) (t : Nat) (R : Nat) (i : Int32) (z : Int32) (f : Nat → Int32) (hc0 : V (t) = some (.inr (9, [.ref (t + 1), .int (z)]))) (hc1 : V (t + 1) = some (.inl (cs 0, R, .inl (f)))) (hz : 0 ≤ z.toInt ∧ z.toInt ≤ R) (hf : ∀ j, j < R → fits .byte (.int (f j)) = true) : hp_M l yX9_at cX9_at 2 (some .int) ({ frames := 1, cells := 0, slots := 0, locals := 21 }) D cs B V n [.ref (t), .int (i)] (hp_QI D cs B (fun r V' n' => n = n' ∧ V = V' ∧ (hx_D (0 ≤ i.toInt ∧ i.toInt < z.toInt) (hx_at (f i.toNatClampNeg).toInt r.toInt) (r.toInt = -1)))) 0 0 := by
  refine hp_walk (R0 := RX9) (by decide) rfl ?_ (Nat.le_of_ble_eq_true rfl)
  intro p e s m below meth c ls hx hb hr hts hown hlocks hin hml hZ hl
  have hP : hq_I cs G V := hI
  have hl : lv_has ls 2 [(0, .ref (t)), (1, .int (i))] := hl
  have hb_i := hq_rng i
  have hb_z := hq_rng z
  refine lv_iload_n hx hb dX9_at_0 rfl (lv_at hl 1 rfl) ?_
  refine lv_if_lt (tgt := 25) hx hb dX9_at_1 (by decide) (fun c1 => ?_) (fun c1 => ?_)
  · have c1 : (i).toInt < (0 : Int) := hq_lti.mp c1
    refine lv_iconst (v := -1) hx hb dX9_at_25 (by decide) ?_
    have hl2 : (-1 : Int32).toInt = -1 := by decide
    exact hp_iret hx hb hr hlocks hZ ⟨rfl, rfl, hx_D.r (by omega) (by omega)⟩ dX9_at_26
  · have c1 : ¬ (i).toInt < (0 : Int) := fun h9 => c1 (hq_lti.mpr h9)
    refine lv_iload_n hx hb dX9_at_4 rfl (lv_at hl 1 rfl) ?_
    refine lv_aload_n hx hb dX9_at_5 rfl (lv_at hl 0 rfl) ?_
    refine hp_get (v := .int (z)) hx hb hts hown hZ hc0 fl_X9_21 rfl dX9_at_6 ?_
    refine lv_icmp_ge (tgt := 25) hx hb dX9_at_9 (by decide) (fun c3 => ?_) (fun c3 => ?_)
    · have c3 : (z).toInt ≤ (i).toInt := hq_lei.mp c3
      refine lv_iconst (v := -1) hx hb dX9_at_25 (by decide) ?_
      have hl4 : (-1 : Int32).toInt = -1 := by decide
      exact hp_iret hx hb hr hlocks hZ ⟨rfl, rfl, hx_D.r (by omega) (by omega)⟩ dX9_at_26
    · have c3 : ¬ (z).toInt ≤ (i).toInt := fun h9 => c3 (hq_lei.mpr h9)
      refine lv_aload_n hx hb dX9_at_12 rfl (lv_at hl 0 rfl) ?_
      refine hp_get (v := .ref (t + 1)) hx hb hts hown hZ hc0 fl_X9_15 rfl dX9_at_13 ?_
      refine lv_iload_n hx hb dX9_at_16 rfl (lv_at hl 1 rfl) ?_
      refine hp_bald hx hb hZ hc1 (hq_in (by omega) (by omega)) dX9_at_17 ?_
      refine lv_topi (fun y5 ey6 => ?_)
      have b7 := hq_rng y5
      have b8 := hx_fb (hf i.toNatClampNeg (hq_ix (by omega) (by omega)))
      rw [← ey6] at b8
      refine lv_sipush (v := 255) hx hb dX9_at_18 (by decide) ?_
      refine lv_iand hx hb dX9_at_21 ?_
      refine lv_topi (fun y9 ey10 => ?_)
      have b11 := hx_and255 y5 (by omega)
      rw [← ey10] at b11
      refine lv_goto (tgt := 26) hx hb dX9_at_22 (by decide) ?_
      exact hp_iret hx hb hr hlocks hZ ⟨rfl, rfl, hx_D.l (by omega) (by rw [← ey6]; show _ ∨ _; omega)⟩ dX9_at_26

set_option maxHeartbeats 4000000 in
set_option maxRecDepth 100000 in
theorem x_clear (l : Launch) (D : va_G) (cs : Nat → ClassId) (B : Nat) (G : hq_G) (V : hp_V) (n : Nat) (hI : hq_I cs G V) (t : Nat) (R : Nat) (z : Int32) (hy0 : G (t) = some (0, R, 0, 0)) (hy1 : G (t + 1) = some (1, R, 0, 0)) (hc0 : V (t) = some (.inr (9, [.ref (t + 1), .int (z)]))) (hR : R ≤ 100000) : hp_M l yX9_clear cX9_clear 1 none ({ frames := 1, cells := 0, slots := 0, locals := 21 }) D cs B V n [.ref (t)] (hp_QV D cs B (fun V' n' => n = n' ∧ hq_P cs G (fun _ => true) V V' ∧ (∀ x, x ≠ t → V' x = V x) ∧ V' (t) = some (.inr (9, [.ref (t + 1), .int (0)])))) 0 0 := by
  refine hp_walk (R0 := RX9) (by decide) rfl ?_ (Nat.le_of_ble_eq_true rfl)
  intro p e s m below meth c ls hx hb hr hts hown hlocks hin hml hZ hl
  have hP : hq_P cs G (fun _ => true) V V := hq_P.rf hI
  have hl : lv_has ls 1 [(0, .ref (t))] := hl
  have hb_z := hq_rng z
  refine lv_aload_n hx hb dX9_clear_0 rfl (lv_at hl 0 rfl) ?_
  refine lv_iconst (v := 0) hx hb dX9_clear_1 (by decide) ?_
  refine hp_put hx hb hts hown hZ hc0 fp_X9_21 rfl rfl (Nat.le_of_ble_eq_true rfl) dX9_clear_2 (fun V1 _ _ e2 o3 hZ => ?_)
  have e2 : V1 (t) = some (.inr (9, [.ref (t + 1), .int (0)])) := e2
  have hP := hP.put hy0 e2 o3 (hq_c0 hy1 (show 0 ≤ (0 : Int) by omega) (show (0 : Int) ≤ (R : Nat) by omega) (by omega) (by first | rfl | omega)) rfl
  exact hp_vret hx hb hr hlocks hZ ⟨rfl, hP, (fun x8 hne0 => o3 x8 hne0), e2⟩ dX9_clear_5

set_option maxHeartbeats 4000000 in
set_option maxRecDepth 100000 in
theorem x_holds (l : Launch) (D : va_G) (cs : Nat → ClassId) (B : Nat) (G : hq_G) (V : hp_V) (n : Nat) (hI : hq_I cs G V) (t : Nat) (R : Nat) (t2 : Nat) (R2 : Nat) (k : Int32) (z : Int32) (f : Nat → Int32) (z2 : Int32) (f2 : Nat → Int32) (hc0 : V (t) = some (.inr (9, [.ref (t + 1), .int (z)]))) (hc1 : V (t + 1) = some (.inl (cs 0, R, .inl (f)))) (hc2 : V (t2) = some (.inr (9, [.ref (t2 + 1), .int (z2)]))) (hc3 : V (t2 + 1) = some (.inl (cs 0, R2, .inl (f2)))) (hz : 0 ≤ z.toInt ∧ z.toInt ≤ R) (hz2 : 0 ≤ z2.toInt ∧ z2.toInt ≤ R2) (hR : R ≤ 100000) (hR2 : R2 ≤ 100000) (hk : 0 ≤ k.toInt) : hp_M l yX9_holds cX9_holds 4 (some .boolean) ({ frames := 1, cells := 0, slots := 0, locals := 21 }) D cs B V n [.ref (t), .ref (t2), .int (k)] (hp_QI D cs B (fun r V' n' => n = n' ∧ V = V' ∧ (hx_D (r.toInt = 1) (k.toInt + z2.toInt ≤ z.toInt ∧ ∀ j : Nat, (j : Int) < z2.toInt → f (k.toInt.toNat + j) = f2 j) (r.toInt = 0 ∧ ¬ (k.toInt + z2.toInt ≤ z.toInt ∧ ∀ j : Nat, (j : Int) < z2.toInt → f (k.toInt.toNat + j) = f2 j))))) 0 0 := by
  refine hp_walk (R0 := RX9) (by decide) rfl ?_ (Nat.le_of_ble_eq_true rfl)
  intro p e s m below meth c ls hx hb hr hts hown hlocks hin hml hZ hl
  have hP : hq_I cs G V := hI
  have hl : lv_has ls 4 [(0, .ref (t)), (1, .ref (t2)), (2, .int (k))] := hl
  have hb_k := hq_rng k
  have hb_z := hq_rng z
  have hb_z2 := hq_rng z2
  refine lv_iload_n hx hb dX9_holds_0 rfl (lv_at hl 2 rfl) ?_
  refine lv_if_lt (tgt := 17) hx hb dX9_holds_1 (by decide) (fun c1 => ?_) (fun c1 => ?_)
  · have c1 : (k).toInt < (0 : Int) := hq_lti.mp c1
    refine lv_iconst (v := 0) hx hb dX9_holds_17 (by decide) ?_
    have hl2 : (0 : Int32).toInt = 0 := by decide
    exact hp_zret hx hb hr rfl hlocks hZ ⟨rfl, rfl, hx_D.r (by omega) ⟨by omega, fun g9 => by omega⟩⟩ dX9_holds_18
  · have c1 : ¬ (k).toInt < (0 : Int) := fun h9 => c1 (hq_lti.mpr h9)
    refine lv_aload_n hx hb dX9_holds_4 rfl (lv_at hl 1 rfl) ?_
    refine hp_get (v := .int (z2)) hx hb hts hown hZ hc2 fl_X9_21 rfl dX9_holds_5 ?_
    refine lv_aload_n hx hb dX9_holds_8 rfl (lv_at hl 0 rfl) ?_
    refine hp_get (v := .int (z)) hx hb hts hown hZ hc0 fl_X9_21 rfl dX9_holds_9 ?_
    refine lv_iload_n hx hb dX9_holds_12 rfl (lv_at hl 2 rfl) ?_
    refine lv_isub hx hb dX9_holds_13 ?_
    refine lv_topi (fun y3 ey4 => ?_)
    obtain ⟨k5, hk6, b7, b8⟩ := hq_sub (z) (k)
    rw [← ey4] at hk6 b7 b8
    have hk6 : (y3).toInt = (z).toInt - (k).toInt + k5 * 4294967296 := hk6
    obtain rfl : k5 = 0 := by omega
    refine lv_icmp_le (tgt := 19) hx hb dX9_holds_14 (by decide) (fun c9 => ?_) (fun c9 => ?_)
    · have c9 : (z2).toInt ≤ (y3).toInt := hq_lei.mp c9
      refine lv_iconst (v := 0) hx hb dX9_holds_19 (by decide) ?_
      refine lv_istore_n (lv' := [(3, .int (0)), (0, .ref (t)), (1, .ref (t2)), (2, .int (k))]) hx hb dX9_holds_20 rfl hl (by decide) rfl (fun ls hl => ?_)
      have hl10 : (0 : Int32).toInt = 0 := by decide
      suffices lp21 : ∀ (k9 : Nat) (H9 : Heap) (locs9 : List Loc) (ls : Array Slot) (i : Int32), (200000 - i.toInt).toNat = k9 → hp_Z D cs B s V H9 n locs9 → hq_I cs G V → 0 ≤ i.toInt → i.toInt ≤ z2.toInt → (∀ j : Nat, (j : Int) < i.toInt → f (k.toInt.toNat + j) = f2 j) → lv_has ls 4 [(3, .int (i)), (0, .ref (t)), (1, .ref (t2)), (2, .int (k))] → W p l e ({ frames := 1, cells := 0, slots := 0, locals := 21 }) s m ([.ref (t), .ref (t2), .int (k)] : List Value).toArray below meth c H9 locs9 0 0 (MQ below (hp_QI D cs B (fun r V' n' => n = n' ∧ V = V' ∧ (hx_D (r.toInt = 1) (k.toInt + z2.toInt ≤ z.toInt ∧ ∀ j : Nat, (j : Int) < z2.toInt → f (k.toInt.toNat + j) = f2 j) (r.toInt = 0 ∧ ¬ (k.toInt + z2.toInt ≤ z.toInt ∧ ∀ j : Nat, (j : Int) < z2.toInt → f (k.toInt.toNat + j) = f2 j))))) ([.ref (t), .ref (t2), .int (k)] : List Value).toArray s 0 0 (hp_F B)) (F0 m 21 ls []) from lp21 _ _ _ ls (0) rfl hZ hP (by omega) (by omega) (fun j hj => by omega) (lv_sub hl [0, 1, 2, 3] rfl)
      intro k9
      induction k9 using Nat.strongRecOn with
      | _ k9 ih21 =>
        intro H9 locs9 ls i   hk21 hZ hP    hv11 hv12 hall hl
        have hb_i := hq_rng i
        refine lv_iload_n hx hb dX9_holds_21 rfl (lv_at hl 0 rfl) ?_
        refine lv_aload_n hx hb dX9_holds_22 rfl (lv_at hl 2 rfl) ?_
        refine hp_get (v := .int (z2)) hx hb hts hown hZ hc2 fl_X9_21 rfl dX9_holds_23 ?_
        refine lv_icmp_ge (tgt := 54) hx hb dX9_holds_26 (by decide) (fun c13 => ?_) (fun c13 => ?_)
        · have c13 : (z2).toInt ≤ (i).toInt := hq_lei.mp c13
          refine lv_iconst (v := 1) hx hb dX9_holds_54 (by decide) ?_
          have hl14 : (1 : Int32).toInt = 1 := by decide
          exact hp_zret hx hb hr rfl hlocks hZ ⟨rfl, rfl, hx_D.l (by omega) ⟨by omega, fun j hj => hall j (by omega)⟩⟩ dX9_holds_55
        · have c13 : ¬ (z2).toInt ≤ (i).toInt := fun h9 => c13 (hq_lei.mpr h9)
          refine lv_aload_n hx hb dX9_holds_29 rfl (lv_at hl 1 rfl) ?_
          refine hp_get (v := .ref (t + 1)) hx hb hts hown hZ hc0 fl_X9_15 rfl dX9_holds_30 ?_
          refine lv_iload_n hx hb dX9_holds_33 rfl (lv_at hl 3 rfl) ?_
          refine lv_iload_n hx hb dX9_holds_34 rfl (lv_at hl 0 rfl) ?_
          refine lv_iadd hx hb dX9_holds_35 ?_
          refine lv_topi (fun y15 ey16 => ?_)
          obtain ⟨k17, hk18, b19, b20⟩ := hq_add (k) (i)
          rw [← ey16] at hk18 b19 b20
          have hk18 : (y15).toInt = (k).toInt + (i).toInt + k17 * 4294967296 := hk18
          obtain rfl : k17 = 0 := by omega
          refine hp_bald hx hb hZ hc1 (hq_in (by omega) (by omega)) dX9_holds_36 ?_
          refine lv_topi (fun y21 ey22 => ?_)
          have b23 := hq_rng y21
          refine lv_aload_n hx hb dX9_holds_37 rfl (lv_at hl 2 rfl) ?_
          refine hp_get (v := .ref (t2 + 1)) hx hb hts hown hZ hc2 fl_X9_15 rfl dX9_holds_38 ?_
          refine lv_iload_n hx hb dX9_holds_41 rfl (lv_at hl 0 rfl) ?_
          refine hp_bald hx hb hZ hc3 (hq_in (by omega) (by omega)) dX9_holds_42 ?_
          refine lv_topi (fun y24 ey25 => ?_)
          have b26 := hq_rng y24
          refine lv_icmp_eq (tgt := 48) hx hb dX9_holds_43 (by decide) (fun c27 => ?_) (fun c27 => ?_)
          · have c27 : (y21).toInt = (y24).toInt := hq_eqi.mp c27
            obtain ⟨y28, ey29⟩ : ∃ y : Int32, y = i + (1) := ⟨_, rfl⟩
            obtain ⟨k30, hk31, b32, b33⟩ := hq_add (i) (1)
            rw [← ey29] at hk31 b32 b33
            have hk31 : (y28).toInt = (i).toInt + (1) + k30 * 4294967296 := hk31
            refine lv_iinc (v := y28) (lv' := [(3, .int (y28)), (0, .ref (t)), (1, .ref (t2)), (2, .int (k))]) hx hb dX9_holds_48 hl (k := 0) rfl (by rw [ey29]; rfl) (by decide) rfl (fun ls hl => ?_)
            refine lv_goto (tgt := 21) hx hb dX9_holds_51 (by decide) ?_
            exact ih21 _ (by omega) _ _ ls (y28) rfl hZ hP (by omega) (by omega) (fun j hj => by by_cases h9 : (j : Int) < i.toInt; (· exact hall j h9); (· rw [show j = i.toInt.toNat by omega, show k.toInt.toNat + i.toInt.toNat = (y15).toNatClampNeg from hx_addn (by omega) (by omega) (by omega)]; exact (ey22.symm.trans (Int32.toInt_inj.mp (by omega))).trans ey25)) (lv_sub hl [0, 1, 2, 3] rfl)
          · have c27 : ¬ (y21).toInt = (y24).toInt := fun h9 => c27 (hq_eqi.mpr h9)
            refine lv_iconst (v := 0) hx hb dX9_holds_46 (by decide) ?_
            have hl34 : (0 : Int32).toInt = 0 := by decide
            exact hp_zret hx hb hr rfl hlocks hZ ⟨rfl, rfl, hx_D.r (by omega) ⟨by omega, fun g9 => by have h9 := g9.2 i.toInt.toNat (by omega); rw [show k.toInt.toNat + i.toInt.toNat = (y15).toNatClampNeg from hx_addn (by omega) (by omega) (by omega)] at h9; exact absurd (congrArg Int32.toInt ((ey22.trans h9).trans ey25.symm)) (by omega)⟩⟩ dX9_holds_47
    · have c9 : ¬ (z2).toInt ≤ (y3).toInt := fun h9 => c9 (hq_lei.mpr h9)
      refine lv_iconst (v := 0) hx hb dX9_holds_17 (by decide) ?_
      have hl35 : (0 : Int32).toInt = 0 := by decide
      exact hp_zret hx hb hr rfl hlocks hZ ⟨rfl, rfl, hx_D.r (by omega) ⟨by omega, fun g9 => by omega⟩⟩ dX9_holds_18

set_option maxHeartbeats 4000000 in
set_option maxRecDepth 100000 in
theorem x_same (l : Launch) (D : va_G) (cs : Nat → ClassId) (B : Nat) (G : hq_G) (V : hp_V) (n : Nat) (hI : hq_I cs G V) (t : Nat) (R : Nat) (t2 : Nat) (R2 : Nat) (z : Int32) (f : Nat → Int32) (z2 : Int32) (f2 : Nat → Int32) (hc0 : V (t) = some (.inr (9, [.ref (t + 1), .int (z)]))) (hc1 : V (t + 1) = some (.inl (cs 0, R, .inl (f)))) (hc2 : V (t2) = some (.inr (9, [.ref (t2 + 1), .int (z2)]))) (hc3 : V (t2 + 1) = some (.inl (cs 0, R2, .inl (f2)))) (hz : 0 ≤ z.toInt ∧ z.toInt ≤ R) (hz2 : 0 ≤ z2.toInt ∧ z2.toInt ≤ R2) (hR : R ≤ 100000) (hR2 : R2 ≤ 100000) : hp_M l yX9_same cX9_same 2 (some .boolean) ({ frames := 2, cells := 0, slots := 0, locals := 44 }) D cs B V n [.ref (t), .ref (t2)] (hp_QI D cs B (fun r V' n' => n = n' ∧ V = V' ∧ (hx_D (r.toInt = 1) (z.toInt = z2.toInt ∧ ∀ j : Nat, (j : Int) < z2.toInt → f j = f2 j) (r.toInt = 0 ∧ ¬ (z.toInt = z2.toInt ∧ ∀ j : Nat, (j : Int) < z2.toInt → f j = f2 j))))) 0 0 := by
  refine hp_walk (R0 := RX9) (by decide) rfl ?_ (Nat.le_of_ble_eq_true rfl)
  intro p e s m below meth c ls hx hb hr hts hown hlocks hin hml hZ hl
  have hP : hq_I cs G V := hI
  have hl : lv_has ls 2 [(0, .ref (t)), (1, .ref (t2))] := hl
  have hb_z := hq_rng z
  have hb_z2 := hq_rng z2
  refine lv_aload_n hx hb dX9_same_0 rfl (lv_at hl 0 rfl) ?_
  refine hp_get (v := .int (z)) hx hb hts hown hZ hc0 fl_X9_21 rfl dX9_same_1 ?_
  refine lv_aload_n hx hb dX9_same_4 rfl (lv_at hl 1 rfl) ?_
  refine hp_get (v := .int (z2)) hx hb hts hown hZ hc2 fl_X9_21 rfl dX9_same_5 ?_
  refine lv_icmp_ne (tgt := 24) hx hb dX9_same_8 (by decide) (fun c1 => ?_) (fun c1 => ?_)
  · have c1 : ¬ (z).toInt = (z2).toInt := fun h9 => c1 (hq_eqi.mpr h9)
    refine lv_iconst (v := 0) hx hb dX9_same_24 (by decide) ?_
    have hl2 : (0 : Int32).toInt = 0 := by decide
    exact hp_zret hx hb hr rfl hlocks hZ ⟨rfl, rfl, hx_D.r (by omega) ⟨by omega, fun g9 => by omega⟩⟩ dX9_same_25
  · have c1 : (z).toInt = (z2).toInt := hq_eqi.mp c1
    refine lv_aload_n hx hb dX9_same_11 rfl (lv_at hl 0 rfl) ?_
    refine lv_aload_n hx hb dX9_same_12 rfl (lv_at hl 1 rfl) ?_
    refine lv_iconst (v := 0) hx hb dX9_same_13 (by decide) ?_
    have hl3 : (0 : Int32).toInt = 0 := by decide
    refine hp_calli (hp_runV (As := [.ref (t2), .int (0)]) (rest := []) hx hb hml hown hts (x_holds l D cs B G V n hP (t) (R) (t2) (R2) (0) (z) (f) (z2) (f2)  hc0 hc1 hc2 hc3  (by omega) (by omega) (by omega) (by omega) (by omega)) hZ hc0 cv_X9_39 rfl rfl ⟨Nat.le_of_ble_eq_true rfl, Nat.le_of_ble_eq_true rfl⟩ rfl hl.1 rfl (Nat.le_of_ble_eq_true rfl) dX9_same_14 ⟨(Nat.le_of_ble_eq_true rfl), (Nat.le_of_ble_eq_true rfl)⟩) hZ (fun r7 V4 n5 _ _ hw6 hZ => ?_)
    obtain ⟨rfl, rfl, hp10⟩ := hw6
    have b11 := hq_rng r7
    refine lv_if_eq (tgt := 24) hx hb dX9_same_17 (by decide) (fun c12 => ?_) (fun c12 => ?_)
    · have c12 : (r7).toInt = (0 : Int) := hq_eqi.mp c12
      have hno := hx_D.neg hp10 (by omega)
      refine lv_iconst (v := 0) hx hb dX9_same_24 (by decide) ?_
      have hl13 : (0 : Int32).toInt = 0 := by decide
      exact hp_zret hx hb hr rfl hlocks hZ ⟨rfl, rfl, hx_D.r (by omega) ⟨by omega, fun g9 => hno.2 ⟨by omega, fun j hj => by rw [show (0 : Int32).toInt.toNat + j = j from Nat.zero_add j]; exact g9.2 j hj⟩⟩⟩ dX9_same_25
    · have c12 : ¬ (r7).toInt = (0 : Int) := fun h9 => c12 (hq_eqi.mpr h9)
      have hyes := hx_D.pos hp10 (by have h9 := Classical.em (r7.toInt = 1); rcases h9 with h9 | h9; exact h9; exact absurd (hx_D.neg hp10 h9).1 (by omega))
      refine lv_iconst (v := 1) hx hb dX9_same_20 (by decide) ?_
      refine lv_goto (tgt := 25) hx hb dX9_same_21 (by decide) ?_
      have hl14 : (1 : Int32).toInt = 1 := by decide
      exact hp_zret hx hb hr rfl hlocks hZ ⟨rfl, rfl, hx_D.l (by omega) ⟨by omega, fun j hj => by have h9 := hyes.2 j hj; rwa [show (0 : Int32).toInt.toNat + j = j from Nat.zero_add j] at h9⟩⟩ dX9_same_25

set_option maxHeartbeats 4000000 in
set_option maxRecDepth 100000 in
theorem x_addPart (l : Launch) (D : va_G) (cs : Nat → ClassId) (B : Nat) (G : hq_G) (V : hp_V) (n : Nat) (hI : hq_I cs G V) (t : Nat) (R : Nat) (t2 : Nat) (R2 : Nat) (k : Int32) (k2 : Int32) (z : Int32) (f : Nat → Int32) (z2 : Int32) (f2 : Nat → Int32) (hy0 : G (t) = some (0, R, 0, 0)) (hy1 : G (t + 1) = some (1, R, 0, 0)) (hy2 : G (t2 + 1) = some (1, R2, 0, 0)) (hc0 : V (t) = some (.inr (9, [.ref (t + 1), .int (z)]))) (hc1 : V (t + 1) = some (.inl (cs 0, R, .inl (f)))) (hc2 : V (t2) = some (.inr (9, [.ref (t2 + 1), .int (z2)]))) (hc3 : V (t2 + 1) = some (.inl (cs 0, R2, .inl (f2)))) (hz : 0 ≤ z.toInt ∧ z.toInt ≤ R) (hz2 : 0 ≤ z2.toInt ∧ z2.toInt ≤ R2) (hR : R ≤ 100000) (hR2 : R2 ≤ 100000) (hk : 0 ≤ k.toInt ∧ k.toInt ≤ k2.toInt ∧ k2.toInt ≤ z2.toInt) (hfit : k2.toInt - k.toInt ≤ R - z.toInt) (hne : t ≠ t2 ∧ t ≠ t2 + 1 ∧ t + 1 ≠ t2 ∧ t + 1 ≠ t2 + 1) : hp_M l yX9_addPart cX9_addPart 5 (some .boolean) ({ frames := 1, cells := 0, slots := 0, locals := 21 }) D cs B V n [.ref (t), .ref (t2), .int (k), .int (k2)] (hp_QI D cs B (fun r V' n' => n = n' ∧ hq_P cs G (fun _ => true) V V' ∧ (∀ x, x ≠ t → x ≠ t + 1 → V' x = V x) ∧ (∃ z1 : Int32, ∃ f1 : Nat → Int32, V' (t) = some (.inr (9, [.ref (t + 1), .int (z1)])) ∧ V' (t + 1) = some (.inl (cs 0, R, .inl (f1))) ∧ (z1.toInt = z.toInt + (k2.toInt - k.toInt)) ∧ ((∀ j : Nat, (j : Int) < z.toInt → f1 j = f j) ∧ (∀ j : Nat, (j : Int) < k2.toInt - k.toInt → f1 (z.toInt.toNat + j) = f2 (k.toInt.toNat + j))) ∧ (r.toInt = 1)))) 0 0 := by
  refine hp_walk (R0 := RX9) (by decide) rfl ?_ (Nat.le_of_ble_eq_true rfl)
  intro p e s m below meth c ls hx hb hr hts hown hlocks hin hml hZ hl
  have hP : hq_P cs G (fun _ => true) V V := hq_P.rf hI
  have hl : lv_has ls 5 [(0, .ref (t)), (1, .ref (t2)), (2, .int (k)), (3, .int (k2))] := hl
  have hb_k := hq_rng k
  have hb_k2 := hq_rng k2
  have hb_z := hq_rng z
  have hb_z2 := hq_rng z2
  have hf_1 := hq_rgB hI hy1 hc1
  have hf_3 := hq_rgB hI hy2 hc3
  refine lv_iload_n hx hb dX9_addPart_0 rfl (lv_at hl 3 rfl) ?_
  refine lv_iload_n hx hb dX9_addPart_1 rfl (lv_at hl 2 rfl) ?_
  refine lv_isub hx hb dX9_addPart_2 ?_
  refine lv_topi (fun y1 ey2 => ?_)
  obtain ⟨k3, hk4, b5, b6⟩ := hq_sub (k2) (k)
  rw [← ey2] at hk4 b5 b6
  have hk4 : (y1).toInt = (k2).toInt - (k).toInt + k3 * 4294967296 := hk4
  obtain rfl : k3 = 0 := by omega
  refine lv_istore (lv' := [(4, .int (y1)), (0, .ref (t)), (1, .ref (t2)), (2, .int (k)), (3, .int (k2))]) hx hb dX9_addPart_3 hl (by decide) rfl (fun ls hl => ?_)
  refine lv_iload_n hx hb dX9_addPart_5 rfl (lv_at hl 3 rfl) ?_
  refine lv_if_lt (tgt := 37) hx hb dX9_addPart_6 (by decide) (fun c7 => absurd c7 (fun h9 => absurd (hq_lti.mp h9) (by have h8 : (0 : Int32).toInt = 0 := rfl; omega))) (fun c7 => ?_)
  refine lv_iload hx hb dX9_addPart_9 (lv_at hl 0 rfl) ?_
  refine lv_if_lt (tgt := 37) hx hb dX9_addPart_11 (by decide) (fun c8 => absurd c8 (fun h9 => absurd (hq_lti.mp h9) (by have h8 : (0 : Int32).toInt = 0 := rfl; omega))) (fun c8 => ?_)
  refine lv_iload_n hx hb dX9_addPart_14 rfl (lv_at hl 4 rfl) ?_
  refine lv_aload_n hx hb dX9_addPart_15 rfl (lv_at hl 2 rfl) ?_
  refine hp_get (v := .int (z2)) hx hb hts hown hZ hc2 fl_X9_21 rfl dX9_addPart_16 ?_
  refine lv_icmp_gt (tgt := 37) hx hb dX9_addPart_19 (by decide) (fun c9 => absurd c9 (fun h9 => absurd (hq_lti.mp h9) (by omega))) (fun c9 => ?_)
  refine lv_iload hx hb dX9_addPart_22 (lv_at hl 0 rfl) ?_
  refine lv_aload_n hx hb dX9_addPart_24 rfl (lv_at hl 1 rfl) ?_
  refine hp_get (v := .ref (t + 1)) hx hb hts hown hZ hc0 fl_X9_15 rfl dX9_addPart_25 ?_
  refine hp_alen (v := nI (R)) hx hb hZ 0 hc1 rfl rfl dX9_addPart_28 ?_
  refine lv_topi (fun y10 ey11 => ?_)
  have b12 : (y10).toInt = (R : Nat) := by rw [ey11]; exact hq_nI (by omega)
  refine lv_aload_n hx hb dX9_addPart_29 rfl (lv_at hl 1 rfl) ?_
  refine hp_get (v := .int (z)) hx hb hts hown hZ hc0 fl_X9_21 rfl dX9_addPart_30 ?_
  refine lv_isub hx hb dX9_addPart_33 ?_
  refine lv_topi (fun y13 ey14 => ?_)
  obtain ⟨k15, hk16, b17, b18⟩ := hq_sub (y10) (z)
  rw [← ey14] at hk16 b17 b18
  have hk16 : (y13).toInt = (y10).toInt - (z).toInt + k15 * 4294967296 := hk16
  obtain rfl : k15 = 0 := by omega
  refine lv_icmp_le (tgt := 39) hx hb dX9_addPart_34 (by decide) (fun c19 => ?_) (fun c19 => absurd (hq_lei.mpr (by omega)) c19)
  refine lv_aload_n hx hb dX9_addPart_39 rfl (lv_at hl 2 rfl) ?_
  refine hp_get (v := .ref (t2 + 1)) hx hb hts hown hZ hc2 fl_X9_15 rfl dX9_addPart_40 ?_
  refine lv_iload_n hx hb dX9_addPart_43 rfl (lv_at hl 3 rfl) ?_
  refine lv_aload_n hx hb dX9_addPart_44 rfl (lv_at hl 1 rfl) ?_
  refine hp_get (v := .ref (t + 1)) hx hb hts hown hZ hc0 fl_X9_15 rfl dX9_addPart_45 ?_
  refine lv_aload_n hx hb dX9_addPart_48 rfl (lv_at hl 1 rfl) ?_
  refine hp_get (v := .int (z)) hx hb hts hown hZ hc0 fl_X9_21 rfl dX9_addPart_49 ?_
  refine lv_iload hx hb dX9_addPart_52 (lv_at hl 0 rfl) ?_
  have hn20 : (k : Int32).toNatClampNeg + (y1 : Int32).toNatClampNeg ≤ R2 := by have h8 := hq_nn (z := k) (by omega); have h9 := hq_nn (z := y1) (by omega); omega
  refine hq_copy hx hb (hml.trans hl.1.symm) hts hown hZ lk_X9_29 ac_nat ac_stat ac_sys hc3 hc1 (by omega) (by omega) (by omega) (by omega) (by omega) hf_3 (Nat.le_of_ble_eq_true rfl) (by decide) dX9_addPart_54 (fun V21 _ _ e22 o23 hZ => ?_)
  have e22 : V21 (t + 1) = some (.inl (cs 0, R, .inl (va_cpy (f2) (f) (k : Int32).toNatClampNeg (z : Int32).toNatClampNeg (y1 : Int32).toNatClampNeg))) := e22
  have hP := hP.put hy1 e22 o23 (hq_c1 (by omega) (hq_cpB hf_3 hf_1 hn20)) rfl
  obtain ⟨g24, ge25⟩ : ∃ g9 : Nat → Int32, g9 = va_cpy (f2) (f) (k : Int32).toNatClampNeg (z : Int32).toNatClampNeg (y1 : Int32).toNatClampNeg := ⟨_, rfl⟩
  have fx26 : V21 (t + 1) = some (.inl (cs 0, R, .inl (g24))) := by rw [ge25]; exact e22
  have hf27 := hq_rgB hP.1 hy1 fx26
  refine lv_aload_n hx hb dX9_addPart_57 rfl (lv_at hl 1 rfl) ?_
  refine lv_dup hx hb dX9_addPart_58 rfl ?_
  have fx28 : V21 (t) = some (.inr (9, [.ref (t + 1), .int (z)])) := (o23 (t) (hq_tne hy0 hy1 (by simp))).trans (hc0)
  refine hp_get (v := .int (z)) hx hb hts hown hZ fx28 fl_X9_21 rfl dX9_addPart_59 ?_
  refine lv_iload hx hb dX9_addPart_62 (lv_at hl 0 rfl) ?_
  refine lv_iadd hx hb dX9_addPart_64 ?_
  refine lv_topi (fun y29 ey30 => ?_)
  obtain ⟨k31, hk32, b33, b34⟩ := hq_add (z) (y1)
  rw [← ey30] at hk32 b33 b34
  have hk32 : (y29).toInt = (z).toInt + (y1).toInt + k31 * 4294967296 := hk32
  obtain rfl : k31 = 0 := by omega
  refine hp_put hx hb hts hown hZ fx28 fp_X9_21 rfl rfl (Nat.le_of_ble_eq_true rfl) dX9_addPart_65 (fun V35 _ _ e36 o37 hZ => ?_)
  have e36 : V35 (t) = some (.inr (9, [.ref (t + 1), .int (y29)])) := e36
  have hP := hP.put hy0 e36 o37 (hq_c0 hy1 (show 0 ≤ (y29).toInt by omega) (show (y29).toInt ≤ (R : Nat) by omega) (by omega) (by first | rfl | omega)) rfl
  refine lv_iconst (v := 1) hx hb dX9_addPart_68 (by decide) ?_
  have hl38 : (1 : Int32).toInt = 1 := by decide
  have fx39 : V35 (t + 1) = some (.inl (cs 0, R, .inl (g24))) := (o37 (t + 1) (hq_tne hy1 hy0 (by simp))).trans (fx26)
  exact hp_zret hx hb hr rfl hlocks hZ ⟨rfl, hP, (fun x8 hne0 hne1 => (o37 x8 hne0).trans (o23 x8 hne1)), y29, g24, e36, fx39, by omega, ⟨fun j hj => by rw [ge25]; exact hx_cp1 (by omega), fun j hj => by rw [ge25]; exact hx_cp2 (by omega) (by omega)⟩, by omega⟩ dX9_addPart_69

set_option maxHeartbeats 4000000 in
set_option maxRecDepth 100000 in
theorem x_set (l : Launch) (D : va_G) (cs : Nat → ClassId) (B : Nat) (G : hq_G) (V : hp_V) (n : Nat) (hI : hq_I cs G V) (t : Nat) (R : Nat) (t2 : Nat) (R2 : Nat) (z : Int32) (f : Nat → Int32) (z2 : Int32) (f2 : Nat → Int32) (hy0 : G (t) = some (0, R, 0, 0)) (hy1 : G (t + 1) = some (1, R, 0, 0)) (hy2 : G (t2 + 1) = some (1, R2, 0, 0)) (hc0 : V (t) = some (.inr (9, [.ref (t + 1), .int (z)]))) (hc1 : V (t + 1) = some (.inl (cs 0, R, .inl (f)))) (hc2 : V (t2) = some (.inr (9, [.ref (t2 + 1), .int (z2)]))) (hc3 : V (t2 + 1) = some (.inl (cs 0, R2, .inl (f2)))) (hz2 : 0 ≤ z2.toInt ∧ z2.toInt ≤ R2) (hR : R ≤ 100000) (hR2 : R2 ≤ 100000) (hfit : z2.toInt ≤ R) (hne : t ≠ t2 ∧ t ≠ t2 + 1 ∧ t + 1 ≠ t2 ∧ t + 1 ≠ t2 + 1) : hp_M l yX9_set cX9_set 2 none ({ frames := 2, cells := 0, slots := 0, locals := 45 }) D cs B V n [.ref (t), .ref (t2)] (hp_QV D cs B (fun V' n' => n = n' ∧ hq_P cs G (fun _ => true) V V' ∧ (∀ x, x ≠ t → x ≠ t + 1 → V' x = V x) ∧ (∃ z1 : Int32, ∃ f1 : Nat → Int32, V' (t) = some (.inr (9, [.ref (t + 1), .int (z1)])) ∧ V' (t + 1) = some (.inl (cs 0, R, .inl (f1))) ∧ (z1.toInt = z2.toInt) ∧ (∀ j : Nat, (j : Int) < z2.toInt → f1 j = f2 j)))) 0 0 := by
  refine hp_walk (R0 := RX9) (by decide) rfl ?_ (Nat.le_of_ble_eq_true rfl)
  intro p e s m below meth c ls hx hb hr hts hown hlocks hin hml hZ hl
  have hP : hq_P cs G (fun _ => true) V V := hq_P.rf hI
  have hl : lv_has ls 2 [(0, .ref (t)), (1, .ref (t2))] := hl
  have hb_z := hq_rng z
  have hb_z2 := hq_rng z2
  have hf_1 := hq_rgB hI hy1 hc1
  have hf_3 := hq_rgB hI hy2 hc3
  refine lv_aload_n hx hb dX9_set_0 rfl (lv_at hl 0 rfl) ?_
  refine lv_iconst (v := 0) hx hb dX9_set_1 (by decide) ?_
  refine hp_put hx hb hts hown hZ hc0 fp_X9_21 rfl rfl (Nat.le_of_ble_eq_true rfl) dX9_set_2 (fun V1 _ _ e2 o3 hZ => ?_)
  have e2 : V1 (t) = some (.inr (9, [.ref (t + 1), .int (0)])) := e2
  have hP := hP.put hy0 e2 o3 (hq_c0 hy1 (show 0 ≤ (0 : Int) by omega) (show (0 : Int) ≤ (R : Nat) by omega) (by omega) (by first | rfl | omega)) rfl
  refine lv_aload_n hx hb dX9_set_5 rfl (lv_at hl 0 rfl) ?_
  refine lv_aload_n hx hb dX9_set_6 rfl (lv_at hl 1 rfl) ?_
  refine lv_iconst (v := 0) hx hb dX9_set_7 (by decide) ?_
  refine lv_aload_n hx hb dX9_set_8 rfl (lv_at hl 1 rfl) ?_
  have fx4 : V1 (t2) = some (.inr (9, [.ref (t2 + 1), .int (z2)])) := (o3 (t2) (by omega)).trans (hc2)
  refine hp_get (v := .int (z2)) hx hb hts hown hZ fx4 fl_X9_21 rfl dX9_set_9 ?_
  have fx5 : V1 (t + 1) = some (.inl (cs 0, R, .inl (f))) := (o3 (t + 1) (hq_tne hy1 hy0 (by simp))).trans (hc1)
  have fx6 : V1 (t2 + 1) = some (.inl (cs 0, R2, .inl (f2))) := (o3 (t2 + 1) (hq_tne hy2 hy0 (by simp))).trans (hc3)
  have hl7 : (0 : Int32).toInt = 0 := by decide
  have hl8 : (0 : Int32).toInt = 0 := by decide
  refine hp_calli (hp_runV (As := [.ref (t2), .int (0), .int (z2)]) (rest := []) hx hb hml hown hts (x_addPart l D cs B G V1 n hP.1 (t) (R) (t2) (R2) (0) (z2) (0) (f) (z2) (f2) hy0 hy1 hy2 e2 fx5 fx4 fx6  (by omega) (by omega) (by omega) (by omega) (by omega) (by omega) (by omega)) hZ e2 cv_X9_35 rfl rfl ⟨Nat.le_of_ble_eq_true rfl, Nat.le_of_ble_eq_true rfl⟩ rfl hl.1 rfl (Nat.le_of_ble_eq_true rfl) dX9_set_12 ⟨(Nat.le_of_ble_eq_true rfl), (Nat.le_of_ble_eq_true rfl)⟩) hZ (fun r12 V9 n10 _ _ hw11 hZ => ?_)
  obtain ⟨rfl, hq13, fr14, z15, u16, ho17, ho18, hp19, hp20, hp21⟩ := hw11
  have b22 := hq_rng z15
  have hP := hP.trans hq13 (fun _ h => Bool.noConfusion h)
  have hf23 := hq_rgB hP.1 hy1 ho18
  have b24 := hq_rng r12
  refine lv_pop hx hb dX9_set_15 rfl ?_
  exact hp_vret hx hb hr hlocks hZ ⟨rfl, hP, (fun x8 hne0 hne1 => (fr14 x8 hne0 hne1).trans (o3 x8 hne0)), z15, u16, ho17, ho18, by omega, fun j hj => by have h9 := hp20.2 j (by omega); rwa [show (0 : Int32).toInt.toNat + j = j from Nat.zero_add j] at h9⟩ dX9_set_16

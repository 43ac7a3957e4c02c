set_option maxHeartbeats 4000000 in
set_option maxRecDepth 100000 in
theorem x_fp (l : Launch) (D : va_G) (cs : Nat → ClassId) (B : Nat) (G : hq_G) (V : hp_V) (n : Nat) (hI : hq_I cs G V) (t : Nat) (R : Nat) (t2 : Nat) (R2 : Nat) (k : Int32) (z : Int32) (f : Nat → Int32) (u : List Int) (z2 : Int32) (f2 : Nat → Int32) (u2 : List Int) (hc0 : V (t) = some (.inr (9, [.ref (t + 1), .int (z)]))) (hc1 : V (t + 1) = some (.inl (cs 0, R, .inl (f)))) (hc2 : V (t2) = some (.inr (9, [.ref (t2 + 1), .int (z2)]))) (hc3 : V (t2 + 1) = some (.inl (cs 0, R2, .inl (f2)))) (hu : sp_rp z f u) (hu2 : sp_rp z2 f2 u2) (hz : z.toInt ≤ R) (hz2 : z2.toInt ≤ R2) (hR : R ≤ 100000) (hR2 : R2 ≤ 100000) (hk : 0 ≤ k.toInt ∧ k.toInt ≤ z.toInt) (hn : 0 < u2.length) : hp_M l yX9_firstPlaceOf cX9_firstPlaceOf 4 (some .int) ({ frames := 2, cells := 0, slots := 0, locals := 44 }) D cs B V n [.ref (t), .ref (t2), .int (k)] (hp_QI D cs B (fun r V' n' => n = n' ∧ V = V' ∧ (r.toInt = sp_fp u2 (u.drop k.toInt.toNat) k.toInt))) 0 0 := by
  refine hp_walk (R0 := RX9) (by decide) rfl ?_ (Nat.le_of_ble_eq_true rfl)
  intro p e s m below meth c ls hx hb hr hts hown hlocks hin hml hZ hl
  have hP : hq_I cs G V := hI
  have hl : lv_has ls 4 [(0, .ref (t)), (1, .ref (t2)), (2, .int (k))] := hl
  have hb_k := hq_rng k
  have hb_z := hq_rng z
  have hb_z2 := hq_rng z2
  have hu1 := hu.1
  have hu21 := hu2.1
  refine lv_iload_n hx hb dX9_firstPlaceOf_0 rfl (lv_at hl 2 rfl) ?_
  refine lv_istore_n (lv' := [(3, .int (k)), (0, .ref (t)), (1, .ref (t2)), (2, .int (k))]) hx hb dX9_firstPlaceOf_1 rfl hl (by decide) rfl (fun ls hl => ?_)
  suffices lp2 : ∀ (k9 : Nat) (H9 : Heap) (locs9 : List Loc) (ls : Array Slot) (i : Int32), (200000 - i.toInt).toNat = k9 → hp_Z D cs B s V H9 n locs9 → hq_I cs G V → 0 ≤ i.toInt → i.toInt ≤ z.toInt → (sp_fp u2 (u.drop i.toInt.toNat) i.toInt = sp_fp u2 (u.drop k.toInt.toNat) k.toInt) → lv_has ls 4 [(3, .int (i)), (0, .ref (t)), (1, .ref (t2)), (2, .int (k))] → W p l e ({ frames := 2, cells := 0, slots := 0, locals := 44 }) s m ([.ref (t), .ref (t2), .int (k)] : List Value).toArray below meth c H9 locs9 0 0 (MQ below (hp_QI D cs B (fun r V' n' => n = n' ∧ V = V' ∧ (r.toInt = sp_fp u2 (u.drop k.toInt.toNat) k.toInt))) ([.ref (t), .ref (t2), .int (k)] : List Value).toArray s 0 0 (hp_F B)) (F0 m 2 ls []) from lp2 _ _ _ ls (k) rfl hZ hP (by omega) (by omega) (rfl) (lv_sub hl [0, 1, 2, 3] rfl)
  intro k9
  induction k9 using Nat.strongRecOn with
  | _ k9 ih2 =>
    intro H9 locs9 ls i   hk2 hZ hP    hv1 hv2 hfp hl
    have hb_i := hq_rng i
    refine lv_iload_n hx hb dX9_firstPlaceOf_2 rfl (lv_at hl 0 rfl) ?_
    refine lv_aload_n hx hb dX9_firstPlaceOf_3 rfl (lv_at hl 1 rfl) ?_
    refine hp_get (v := .int (z)) hx hb hts hown hZ hc0 fl_X9_21 rfl dX9_firstPlaceOf_4 ?_
    refine lv_aload_n hx hb dX9_firstPlaceOf_7 rfl (lv_at hl 2 rfl) ?_
    refine hp_get (v := .int (z2)) hx hb hts hown hZ hc2 fl_X9_21 rfl dX9_firstPlaceOf_8 ?_
    refine lv_isub hx hb dX9_firstPlaceOf_11 ?_
    refine lv_topi (fun y3 ey4 => ?_)
    obtain ⟨k5, hk6, b7, b8⟩ := hq_sub (z) (z2)
    rw [← ey4] at hk6 b7 b8
    have hk6 : (y3).toInt = (z).toInt - (z2).toInt + k5 * 4294967296 := hk6
    obtain rfl : k5 = 0 := by omega
    refine lv_icmp_gt (tgt := 32) hx hb dX9_firstPlaceOf_12 (by decide) (fun c9 => ?_) (fun c9 => ?_)
    · have c9 : (y3).toInt < (i).toInt := hq_lti.mp c9
      refine lv_iconst (v := -1) hx hb dX9_firstPlaceOf_32 (by decide) ?_
      have hl10 : (-1 : Int32).toInt = -1 := by decide
      exact hp_iret hx hb hr hlocks hZ ⟨rfl, rfl, by rw [← hfp, sp_fp_o u2 _ _ (by rw [List.length_drop]; omega)]; omega⟩ dX9_firstPlaceOf_33
    · have c9 : ¬ (y3).toInt < (i).toInt := fun h9 => c9 (hq_lti.mpr h9)
      refine lv_aload_n hx hb dX9_firstPlaceOf_15 rfl (lv_at hl 1 rfl) ?_
      refine lv_aload_n hx hb dX9_firstPlaceOf_16 rfl (lv_at hl 2 rfl) ?_
      refine lv_iload_n hx hb dX9_firstPlaceOf_17 rfl (lv_at hl 0 rfl) ?_
      refine hp_calli (hp_runV (As := [.ref (t2), .int (i)]) (rest := []) hx hb hml hown hts (x_holds l D cs B G V n hP (t) (R) (t2) (R2) (i) (z) (f) (z2) (f2)  hc0 hc1 hc2 hc3  (by omega) (by omega) (by omega) (by omega) (by omega)) hZ hc0 cv_X9_39 rfl rfl ⟨Nat.le_of_ble_eq_true rfl, Nat.le_of_ble_eq_true rfl⟩ rfl hl.1 rfl (Nat.le_of_ble_eq_true rfl) dX9_firstPlaceOf_18 ⟨(Nat.le_of_ble_eq_true rfl), (Nat.le_of_ble_eq_true rfl)⟩) hZ (fun r14 V11 n12 _ _ hw13 hZ => ?_)
      obtain ⟨rfl, rfl, hp17⟩ := hw13
      have b18 := hq_rng r14
      refine lv_if_eq (tgt := 26) hx hb dX9_firstPlaceOf_21 (by decide) (fun c19 => ?_) (fun c19 => ?_)
      · have c19 : (r14).toInt = (0 : Int) := hq_eqi.mp c19
        have hst : ¬ sp_pf u2 (u.drop (i).toInt.toNat) = true := fun g9 => (hx_D.neg hp17 (by omega)).2 ((hx_st hu hu2 (i := (i).toInt) (by omega) hn).mpr g9)
        obtain ⟨y20, ey21⟩ : ∃ y : Int32, y = i + (1) := ⟨_, rfl⟩
        obtain ⟨k22, hk23, b24, b25⟩ := hq_add (i) (1)
        rw [← ey21] at hk23 b24 b25
        have hk23 : (y20).toInt = (i).toInt + (1) + k22 * 4294967296 := hk23
        obtain rfl : k22 = 0 := by omega
        refine lv_iinc (v := y20) (lv' := [(3, .int (y20)), (0, .ref (t)), (1, .ref (t2)), (2, .int (k))]) hx hb dX9_firstPlaceOf_26 hl (k := 0) rfl (by rw [ey21]; rfl) (by decide) rfl (fun ls hl => ?_)
        refine lv_goto (tgt := 2) hx hb dX9_firstPlaceOf_29 (by decide) ?_
        exact ih2 _ (by omega) _ _ ls (y20) rfl hZ hP (by omega) (by omega) (by rw [← hfp, sp_fp_n (by omega) hst, show (y20).toInt.toNat = i.toInt.toNat + 1 by omega, show (y20).toInt = i.toInt + 1 by omega]) (lv_sub hl [0, 1, 2, 3] rfl)
      · have c19 : ¬ (r14).toInt = (0 : Int) := fun h9 => c19 (hq_eqi.mpr h9)
        have hst : sp_pf u2 (u.drop (i).toInt.toNat) = true := (hx_st hu hu2 (i := (i).toInt) (by omega) hn).mp (hx_D.pos hp17 (by rcases Classical.em ((r14).toInt = 1) with h9 | h9; exact h9; exact absurd (hx_D.neg hp17 h9).1 (by omega)))
        refine lv_iload_n hx hb dX9_firstPlaceOf_24 rfl (lv_at hl 0 rfl) ?_
        exact hp_iret hx hb hr hlocks hZ ⟨rfl, rfl, by rw [← hfp, sp_fp_y hst]⟩ dX9_firstPlaceOf_25

set_option maxHeartbeats 4000000 in
set_option maxRecDepth 100000 in
theorem x_lp (l : Launch) (D : va_G) (cs : Nat → ClassId) (B : Nat) (G : hq_G) (V : hp_V) (n : Nat) (hI : hq_I cs G V) (t : Nat) (R : Nat) (t2 : Nat) (R2 : Nat) (z : Int32) (f : Nat → Int32) (u : List Int) (z2 : Int32) (f2 : Nat → Int32) (u2 : List Int) (hc0 : V (t) = some (.inr (9, [.ref (t + 1), .int (z)]))) (hc1 : V (t + 1) = some (.inl (cs 0, R, .inl (f)))) (hc2 : V (t2) = some (.inr (9, [.ref (t2 + 1), .int (z2)]))) (hc3 : V (t2 + 1) = some (.inl (cs 0, R2, .inl (f2)))) (hu : sp_rp z f u) (hu2 : sp_rp z2 f2 u2) (hz : z.toInt ≤ R) (hz2 : z2.toInt ≤ R2) (hR : R ≤ 100000) (hR2 : R2 ≤ 100000) (hn : 0 < u2.length) : hp_M l yX9_lastPlaceOf cX9_lastPlaceOf 3 (some .int) ({ frames := 2, cells := 0, slots := 0, locals := 44 }) D cs B V n [.ref (t), .ref (t2)] (hp_QI D cs B (fun r V' n' => n = n' ∧ V = V' ∧ (r.toInt = sp_lp u2 u))) 0 0 := by
  refine hp_walk (R0 := RX9) (by decide) rfl ?_ (Nat.le_of_ble_eq_true rfl)
  intro p e s m below meth c ls hx hb hr hts hown hlocks hin hml hZ hl
  have hP : hq_I cs G V := hI
  have hl : lv_has ls 3 [(0, .ref (t)), (1, .ref (t2))] := hl
  have hb_z := hq_rng z
  have hb_z2 := hq_rng z2
  have hu1 := hu.1
  have hu21 := hu2.1
  refine lv_aload_n hx hb dX9_lastPlaceOf_0 rfl (lv_at hl 0 rfl) ?_
  refine hp_get (v := .int (z)) hx hb hts hown hZ hc0 fl_X9_21 rfl dX9_lastPlaceOf_1 ?_
  refine lv_aload_n hx hb dX9_lastPlaceOf_4 rfl (lv_at hl 1 rfl) ?_
  refine hp_get (v := .int (z2)) hx hb hts hown hZ hc2 fl_X9_21 rfl dX9_lastPlaceOf_5 ?_
  refine lv_isub hx hb dX9_lastPlaceOf_8 ?_
  refine lv_topi (fun y1 ey2 => ?_)
  obtain ⟨k3, hk4, b5, b6⟩ := hq_sub (z) (z2)
  rw [← ey2] at hk4 b5 b6
  have hk4 : (y1).toInt = (z).toInt - (z2).toInt + k3 * 4294967296 := hk4
  obtain rfl : k3 = 0 := by omega
  refine lv_istore_n (lv' := [(2, .int (y1)), (0, .ref (t)), (1, .ref (t2))]) hx hb dX9_lastPlaceOf_9 rfl hl (by decide) rfl (fun ls hl => ?_)
  suffices lp10 : ∀ (k9 : Nat) (H9 : Heap) (locs9 : List Loc) (ls : Array Slot) (i : Int32), (300000 + i.toInt).toNat = k9 → hp_Z D cs B s V H9 n locs9 → hq_I cs G V → -1 ≤ i.toInt ∨ i.toInt < 0 → i.toInt ≤ z.toInt → ((0 ≤ i.toInt ∧ sp_lpg u2 u i.toInt.toNat = sp_lp u2 u) ∨ (i.toInt < 0 ∧ sp_lp u2 u = -1)) → lv_has ls 3 [(2, .int (i)), (0, .ref (t)), (1, .ref (t2))] → W p l e ({ frames := 2, cells := 0, slots := 0, locals := 44 }) s m ([.ref (t), .ref (t2)] : List Value).toArray below meth c H9 locs9 0 0 (MQ below (hp_QI D cs B (fun r V' n' => n = n' ∧ V = V' ∧ (r.toInt = sp_lp u2 u))) ([.ref (t), .ref (t2)] : List Value).toArray s 0 0 (hp_F B)) (F0 m 10 ls []) from lp10 _ _ _ ls (y1) rfl hZ hP (by omega) (by omega) (by rcases Classical.em (u2.length ≤ u.length) with c9 | c9; (· exact Or.inl ⟨by omega, by rw [sp_lp_fit hn c9, show (y1).toInt.toNat = u.length - u2.length by omega]⟩); (· exact Or.inr ⟨by omega, sp_lp_none (by omega)⟩)) (lv_sub hl [0, 1, 2] rfl)
  intro k9
  induction k9 using Nat.strongRecOn with
  | _ k9 ih10 =>
    intro H9 locs9 ls i   hk10 hZ hP    hv7 hv8 hlp hl
    have hb_i := hq_rng i
    refine lv_iload_n hx hb dX9_lastPlaceOf_10 rfl (lv_at hl 0 rfl) ?_
    refine lv_if_lt (tgt := 31) hx hb dX9_lastPlaceOf_11 (by decide) (fun c9 => ?_) (fun c9 => ?_)
    · have c9 : (i).toInt < (0 : Int) := hq_lti.mp c9
      refine lv_iconst (v := -1) hx hb dX9_lastPlaceOf_31 (by decide) ?_
      have hl10 : (-1 : Int32).toInt = -1 := by decide
      exact hp_iret hx hb hr hlocks hZ ⟨rfl, rfl, by rcases hlp with ⟨g1, g2⟩ | ⟨g1, g2⟩ <;> omega⟩ dX9_lastPlaceOf_32
    · have c9 : ¬ (i).toInt < (0 : Int) := fun h9 => c9 (hq_lti.mpr h9)
      refine lv_aload_n hx hb dX9_lastPlaceOf_14 rfl (lv_at hl 1 rfl) ?_
      refine lv_aload_n hx hb dX9_lastPlaceOf_15 rfl (lv_at hl 2 rfl) ?_
      refine lv_iload_n hx hb dX9_lastPlaceOf_16 rfl (lv_at hl 0 rfl) ?_
      refine hp_calli (hp_runV (As := [.ref (t2), .int (i)]) (rest := []) hx hb hml hown hts (x_holds l D cs B G V n hP (t) (R) (t2) (R2) (i) (z) (f) (z2) (f2)  hc0 hc1 hc2 hc3  (by omega) (by omega) (by omega) (by omega) (by omega)) hZ hc0 cv_X9_39 rfl rfl ⟨Nat.le_of_ble_eq_true rfl, Nat.le_of_ble_eq_true rfl⟩ rfl hl.1 rfl (Nat.le_of_ble_eq_true rfl) dX9_lastPlaceOf_17 ⟨(Nat.le_of_ble_eq_true rfl), (Nat.le_of_ble_eq_true rfl)⟩) hZ (fun r14 V11 n12 _ _ hw13 hZ => ?_)
      obtain ⟨rfl, rfl, hp17⟩ := hw13
      have b18 := hq_rng r14
      refine lv_if_eq (tgt := 25) hx hb dX9_lastPlaceOf_20 (by decide) (fun c19 => ?_) (fun c19 => ?_)
      · have c19 : (r14).toInt = (0 : Int) := hq_eqi.mp c19
        have hst : ¬ sp_pf u2 (u.drop (i).toInt.toNat) = true := fun g9 => (hx_D.neg hp17 (by omega)).2 ((hx_st hu hu2 (i := (i).toInt) (by omega) hn).mpr g9)
        obtain ⟨y20, ey21⟩ : ∃ y : Int32, y = i + (-1) := ⟨_, rfl⟩
        obtain ⟨k22, hk23, b24, b25⟩ := hq_add (i) (-1)
        rw [← ey21] at hk23 b24 b25
        have hk23 : (y20).toInt = (i).toInt + (-1) + k22 * 4294967296 := hk23
        obtain rfl : k22 = 0 := by omega
        refine lv_iinc (v := y20) (lv' := [(2, .int (y20)), (0, .ref (t)), (1, .ref (t2))]) hx hb dX9_lastPlaceOf_25 hl (k := 0) rfl (by rw [ey21]; rfl) (by decide) rfl (fun ls hl => ?_)
        refine lv_goto (tgt := 10) hx hb dX9_lastPlaceOf_28 (by decide) ?_
        exact ih10 _ (by omega) _ _ ls (y20) rfl hZ hP (by omega) (by omega) (by rcases hlp with ⟨g1, g2⟩ | ⟨g1, g2⟩; (· rcases Classical.em (i.toInt = 0) with c9 | c9; (· rw [show i.toInt.toNat = 0 by omega] at g2 hst; exact Or.inr ⟨by omega, by rw [← g2]; exact sp_lpg_0 hst⟩); (· refine Or.inl ⟨by omega, ?_⟩; rw [← g2, show i.toInt.toNat = (y20).toInt.toNat + 1 by omega, sp_lpg_n (by rw [show (y20).toInt.toNat + 1 = i.toInt.toNat by omega]; exact hst)])); (· omega)) (lv_sub hl [0, 1, 2] rfl)
      · have c19 : ¬ (r14).toInt = (0 : Int) := fun h9 => c19 (hq_eqi.mpr h9)
        have hst : sp_pf u2 (u.drop (i).toInt.toNat) = true := (hx_st hu hu2 (i := (i).toInt) (by omega) hn).mp (hx_D.pos hp17 (by rcases Classical.em ((r14).toInt = 1) with h9 | h9; exact h9; exact absurd (hx_D.neg hp17 h9).1 (by omega)))
        refine lv_iload_n hx hb dX9_lastPlaceOf_23 rfl (lv_at hl 0 rfl) ?_
        exact hp_iret hx hb hr hlocks hZ ⟨rfl, rfl, by rcases hlp with ⟨g1, g2⟩ | ⟨g1, g2⟩; (· rw [← g2, sp_lpg_y hst]; omega); (· omega)⟩ dX9_lastPlaceOf_24

set_option maxHeartbeats 4000000 in
set_option maxRecDepth 100000 in
theorem x_addP (l : Launch) (D : va_G) (cs : Nat → ClassId) (B : Nat) (G : hq_G) (V : hp_V) (n : Nat) (hI : hq_I cs G V) (t : Nat) (R : Nat) (t2 : Nat) (R2 : Nat) (k : Int32) (k2 : Int32) (z : Int32) (f : Nat → Int32) (u : List Int) (z2 : Int32) (f2 : Nat → Int32) (u2 : List Int) (hy0 : G (t) = some (0, R, 0, 0)) (hy1 : G (t + 1) = some (1, R, 0, 0)) (hy2 : G (t2 + 1) = some (1, R2, 0, 0)) (hc0 : V (t) = some (.inr (9, [.ref (t + 1), .int (z)]))) (hc1 : V (t + 1) = some (.inl (cs 0, R, .inl (f)))) (hc2 : V (t2) = some (.inr (9, [.ref (t2 + 1), .int (z2)]))) (hc3 : V (t2 + 1) = some (.inl (cs 0, R2, .inl (f2)))) (hu : sp_rp z f u) (hu2 : sp_rp z2 f2 u2) (hz : z.toInt ≤ R) (hz2 : z2.toInt ≤ R2) (hR : R ≤ 100000) (hR2 : R2 ≤ 100000) (hk : 0 ≤ k.toInt ∧ k.toInt ≤ k2.toInt ∧ k2.toInt ≤ z2.toInt) (hne : t ≠ t2 ∧ t ≠ t2 + 1 ∧ t + 1 ≠ t2 ∧ t + 1 ≠ t2 + 1) : hp_M l yX9_addPart cX9_addPart 5 (some .boolean) ({ frames := 1, cells := 0, slots := 0, locals := 21 }) D cs B V n [.ref (t), .ref (t2), .int (k), .int (k2)] (hp_QI D cs B (fun r V' n' => n = n' ∧ hq_P cs G (fun _ => true) V V' ∧ (∀ x, x ≠ t → x ≠ t + 1 → V' x = V x) ∧ (∃ z1 : Int32, ∃ f1 : Nat → Int32, V' (t) = some (.inr (9, [.ref (t + 1), .int (z1)])) ∧ V' (t + 1) = some (.inl (cs 0, R, .inl (f1))) ∧ ((z.toInt + (k2.toInt - k.toInt) ≤ R ∧ r.toInt = 1 ∧ sp_rp z1 f1 (u ++ (u2.drop k.toInt.toNat).take (k2.toInt - k.toInt).toNat)) ∨ (¬ z.toInt + (k2.toInt - k.toInt) ≤ R ∧ r.toInt = 0 ∧ sp_rp z1 f1 u)) ∧ (0 ≤ z1.toInt ∧ z1.toInt ≤ R)))) 0 0 := by
  refine hp_walk (R0 := RX9) (by decide) rfl ?_ (Nat.le_of_ble_eq_true rfl)
  intro p e s m below meth c ls hx hb hr hts hown hlocks hin hml hZ hl
  have hP : hq_P cs G (fun _ => true) V V := hq_P.rf hI
  have hl : lv_has ls 5 [(0, .ref (t)), (1, .ref (t2)), (2, .int (k)), (3, .int (k2))] := hl
  have hb_k := hq_rng k
  have hb_k2 := hq_rng k2
  have hb_z := hq_rng z
  have hb_z2 := hq_rng z2
  have hf_1 := hq_rgB hI hy1 hc1
  have hf_3 := hq_rgB hI hy2 hc3
  have hu1 := hu.1
  have hu21 := hu2.1
  refine lv_iload_n hx hb dX9_addPart_0 rfl (lv_at hl 3 rfl) ?_
  refine lv_iload_n hx hb dX9_addPart_1 rfl (lv_at hl 2 rfl) ?_
  refine lv_isub hx hb dX9_addPart_2 ?_
  refine lv_topi (fun y1 ey2 => ?_)
  obtain ⟨k3, hk4, b5, b6⟩ := hq_sub (k2) (k)
  rw [← ey2] at hk4 b5 b6
  have hk4 : (y1).toInt = (k2).toInt - (k).toInt + k3 * 4294967296 := hk4
  obtain rfl : k3 = 0 := by omega
  refine lv_istore (lv' := [(4, .int (y1)), (0, .ref (t)), (1, .ref (t2)), (2, .int (k)), (3, .int (k2))]) hx hb dX9_addPart_3 hl (by decide) rfl (fun ls hl => ?_)
  refine lv_iload_n hx hb dX9_addPart_5 rfl (lv_at hl 3 rfl) ?_
  refine lv_if_lt (tgt := 37) hx hb dX9_addPart_6 (by decide) (fun c7 => absurd c7 (fun h9 => absurd (hq_lti.mp h9) (by have h8 : (0 : Int32).toInt = 0 := rfl; omega))) (fun c7 => ?_)
  refine lv_iload hx hb dX9_addPart_9 (lv_at hl 0 rfl) ?_
  refine lv_if_lt (tgt := 37) hx hb dX9_addPart_11 (by decide) (fun c8 => absurd c8 (fun h9 => absurd (hq_lti.mp h9) (by have h8 : (0 : Int32).toInt = 0 := rfl; omega))) (fun c8 => ?_)
  refine lv_iload_n hx hb dX9_addPart_14 rfl (lv_at hl 4 rfl) ?_
  refine lv_aload_n hx hb dX9_addPart_15 rfl (lv_at hl 2 rfl) ?_
  refine hp_get (v := .int (z2)) hx hb hts hown hZ hc2 fl_X9_21 rfl dX9_addPart_16 ?_
  refine lv_icmp_gt (tgt := 37) hx hb dX9_addPart_19 (by decide) (fun c9 => absurd c9 (fun h9 => absurd (hq_lti.mp h9) (by omega))) (fun c9 => ?_)
  refine lv_iload hx hb dX9_addPart_22 (lv_at hl 0 rfl) ?_
  refine lv_aload_n hx hb dX9_addPart_24 rfl (lv_at hl 1 rfl) ?_
  refine hp_get (v := .ref (t + 1)) hx hb hts hown hZ hc0 fl_X9_15 rfl dX9_addPart_25 ?_
  refine hp_alen (v := nI (R)) hx hb hZ 0 hc1 rfl rfl dX9_addPart_28 ?_
  refine lv_topi (fun y10 ey11 => ?_)
  have b12 : (y10).toInt = (R : Nat) := by rw [ey11]; exact hq_nI (by omega)
  refine lv_aload_n hx hb dX9_addPart_29 rfl (lv_at hl 1 rfl) ?_
  refine hp_get (v := .int (z)) hx hb hts hown hZ hc0 fl_X9_21 rfl dX9_addPart_30 ?_
  refine lv_isub hx hb dX9_addPart_33 ?_
  refine lv_topi (fun y13 ey14 => ?_)
  obtain ⟨k15, hk16, b17, b18⟩ := hq_sub (y10) (z)
  rw [← ey14] at hk16 b17 b18
  have hk16 : (y13).toInt = (y10).toInt - (z).toInt + k15 * 4294967296 := hk16
  obtain rfl : k15 = 0 := by omega
  refine lv_icmp_le (tgt := 39) hx hb dX9_addPart_34 (by decide) (fun c19 => ?_) (fun c19 => ?_)
  · have c19 : (y1).toInt ≤ (y13).toInt := hq_lei.mp c19
    refine lv_aload_n hx hb dX9_addPart_39 rfl (lv_at hl 2 rfl) ?_
    refine hp_get (v := .ref (t2 + 1)) hx hb hts hown hZ hc2 fl_X9_15 rfl dX9_addPart_40 ?_
    refine lv_iload_n hx hb dX9_addPart_43 rfl (lv_at hl 3 rfl) ?_
    refine lv_aload_n hx hb dX9_addPart_44 rfl (lv_at hl 1 rfl) ?_
    refine hp_get (v := .ref (t + 1)) hx hb hts hown hZ hc0 fl_X9_15 rfl dX9_addPart_45 ?_
    refine lv_aload_n hx hb dX9_addPart_48 rfl (lv_at hl 1 rfl) ?_
    refine hp_get (v := .int (z)) hx hb hts hown hZ hc0 fl_X9_21 rfl dX9_addPart_49 ?_
    refine lv_iload hx hb dX9_addPart_52 (lv_at hl 0 rfl) ?_
    have hn20 : (k : Int32).toNatClampNeg + (y1 : Int32).toNatClampNeg ≤ R2 := by have h8 := hq_nn (z := k) (by omega); have h9 := hq_nn (z := y1) (by omega); omega
    refine hq_copy hx hb (hml.trans hl.1.symm) hts hown hZ lk_X9_29 ac_nat ac_stat ac_sys hc3 hc1 (by omega) (by omega) (by omega) (by omega) (by omega) hf_3 (Nat.le_of_ble_eq_true rfl) (by decide) dX9_addPart_54 (fun V21 _ _ e22 o23 hZ => ?_)
    have e22 : V21 (t + 1) = some (.inl (cs 0, R, .inl (va_cpy (f2) (f) (k : Int32).toNatClampNeg (z : Int32).toNatClampNeg (y1 : Int32).toNatClampNeg))) := e22
    have hP := hP.put hy1 e22 o23 (hq_c1 (by omega) (hq_cpB hf_3 hf_1 hn20)) rfl
    obtain ⟨g24, ge25⟩ : ∃ g9 : Nat → Int32, g9 = va_cpy (f2) (f) (k : Int32).toNatClampNeg (z : Int32).toNatClampNeg (y1 : Int32).toNatClampNeg := ⟨_, rfl⟩
    have fx26 : V21 (t + 1) = some (.inl (cs 0, R, .inl (g24))) := by rw [ge25]; exact e22
    have hf27 := hq_rgB hP.1 hy1 fx26
    refine lv_aload_n hx hb dX9_addPart_57 rfl (lv_at hl 1 rfl) ?_
    refine lv_dup hx hb dX9_addPart_58 rfl ?_
    have fx28 : V21 (t) = some (.inr (9, [.ref (t + 1), .int (z)])) := (o23 (t) (hq_tne hy0 hy1 (by simp))).trans (hc0)
    refine hp_get (v := .int (z)) hx hb hts hown hZ fx28 fl_X9_21 rfl dX9_addPart_59 ?_
    refine lv_iload hx hb dX9_addPart_62 (lv_at hl 0 rfl) ?_
    refine lv_iadd hx hb dX9_addPart_64 ?_
    refine lv_topi (fun y29 ey30 => ?_)
    obtain ⟨k31, hk32, b33, b34⟩ := hq_add (z) (y1)
    rw [← ey30] at hk32 b33 b34
    have hk32 : (y29).toInt = (z).toInt + (y1).toInt + k31 * 4294967296 := hk32
    obtain rfl : k31 = 0 := by omega
    refine hp_put hx hb hts hown hZ fx28 fp_X9_21 rfl rfl (Nat.le_of_ble_eq_true rfl) dX9_addPart_65 (fun V35 _ _ e36 o37 hZ => ?_)
    have e36 : V35 (t) = some (.inr (9, [.ref (t + 1), .int (y29)])) := e36
    have hP := hP.put hy0 e36 o37 (hq_c0 hy1 (show 0 ≤ (y29).toInt by omega) (show (y29).toInt ≤ (R : Nat) by omega) (by omega) (by first | rfl | omega)) rfl
    refine lv_iconst (v := 1) hx hb dX9_addPart_68 (by decide) ?_
    have hl38 : (1 : Int32).toInt = 1 := by decide
    have fx39 : V35 (t + 1) = some (.inl (cs 0, R, .inl (g24))) := (o37 (t + 1) (hq_tne hy1 hy0 (by simp))).trans (fx26)
    exact hp_zret hx hb hr rfl hlocks hZ ⟨rfl, hP, (fun x8 hne0 hne1 => (o37 x8 hne0).trans (o23 x8 hne1)), y29, g24, e36, fx39, Or.inl ⟨by omega, by omega, hu.app hu2.2 (by omega) (by omega) (fun j hj => by rw [ge25]; exact hx_cp1 (by omega)) (fun j hj => by rw [ge25]; exact hx_cp2 (by omega) (by omega))⟩, by omega⟩ dX9_addPart_69
  · have c19 : ¬ (y1).toInt ≤ (y13).toInt := fun h9 => c19 (hq_lei.mpr h9)
    refine lv_iconst (v := 0) hx hb dX9_addPart_37 (by decide) ?_
    have hl40 : (0 : Int32).toInt = 0 := by decide
    exact hp_zret hx hb hr rfl hlocks hZ ⟨rfl, hP, (fun x8 hne0 hne1 => rfl), z, f, hc0, hc1, Or.inr ⟨by omega, by omega, hu⟩, by omega⟩ dX9_addPart_38

set_option maxHeartbeats 4000000 in
set_option maxRecDepth 100000 in
theorem x_addA (l : Launch) (D : va_G) (cs : Nat → ClassId) (B : Nat) (G : hq_G) (V : hp_V) (n : Nat) (hI : hq_I cs G V) (t : Nat) (R : Nat) (t2 : Nat) (R2 : Nat) (z : Int32) (f : Nat → Int32) (u : List Int) (z2 : Int32) (f2 : Nat → Int32) (u2 : List Int) (hy0 : G (t) = some (0, R, 0, 0)) (hy1 : G (t + 1) = some (1, R, 0, 0)) (hy2 : G (t2 + 1) = some (1, R2, 0, 0)) (hc0 : V (t) = some (.inr (9, [.ref (t + 1), .int (z)]))) (hc1 : V (t + 1) = some (.inl (cs 0, R, .inl (f)))) (hc2 : V (t2) = some (.inr (9, [.ref (t2 + 1), .int (z2)]))) (hc3 : V (t2 + 1) = some (.inl (cs 0, R2, .inl (f2)))) (hu : sp_rp z f u) (hu2 : sp_rp z2 f2 u2) (hz : z.toInt ≤ R) (hz2 : z2.toInt ≤ R2) (hR : R ≤ 100000) (hR2 : R2 ≤ 100000) (hne : t ≠ t2 ∧ t ≠ t2 + 1 ∧ t + 1 ≠ t2 ∧ t + 1 ≠ t2 + 1) : hp_M l yX9_addAll cX9_addAll 2 (some .boolean) ({ frames := 2, cells := 0, slots := 0, locals := 45 }) D cs B V n [.ref (t), .ref (t2)] (hp_QI D cs B (fun r V' n' => n = n' ∧ hq_P cs G (fun _ => true) V V' ∧ (∀ x, x ≠ t → x ≠ t + 1 → V' x = V x) ∧ (∃ z1 : Int32, ∃ f1 : Nat → Int32, V' (t) = some (.inr (9, [.ref (t + 1), .int (z1)])) ∧ V' (t + 1) = some (.inl (cs 0, R, .inl (f1))) ∧ ((z.toInt + z2.toInt ≤ R ∧ r.toInt = 1 ∧ sp_rp z1 f1 (u ++ u2)) ∨ (¬ z.toInt + z2.toInt ≤ R ∧ r.toInt = 0 ∧ sp_rp z1 f1 u)) ∧ (0 ≤ z1.toInt ∧ z1.toInt ≤ R)))) 0 0 := by
  refine hp_walk (R0 := RX9) (by decide) rfl ?_ (Nat.le_of_ble_eq_true rfl)
  intro p e s m below meth c ls hx hb hr hts hown hlocks hin hml hZ hl
  have hP : hq_P cs G (fun _ => true) V V := hq_P.rf hI
  have hl : lv_has ls 2 [(0, .ref (t)), (1, .ref (t2))] := hl
  have hb_z := hq_rng z
  have hb_z2 := hq_rng z2
  have hf_1 := hq_rgB hI hy1 hc1
  have hf_3 := hq_rgB hI hy2 hc3
  have hu1 := hu.1
  have hu21 := hu2.1
  refine lv_aload_n hx hb dX9_addAll_0 rfl (lv_at hl 0 rfl) ?_
  refine lv_aload_n hx hb dX9_addAll_1 rfl (lv_at hl 1 rfl) ?_
  refine lv_iconst (v := 0) hx hb dX9_addAll_2 (by decide) ?_
  refine lv_aload_n hx hb dX9_addAll_3 rfl (lv_at hl 1 rfl) ?_
  refine hp_get (v := .int (z2)) hx hb hts hown hZ hc2 fl_X9_21 rfl dX9_addAll_4 ?_
  have hl1 : (0 : Int32).toInt = 0 := by decide
  refine hp_calli (hp_runV (As := [.ref (t2), .int (0), .int (z2)]) (rest := []) hx hb hml hown hts (x_addP l D cs B G V n hP.1 (t) (R) (t2) (R2) (0) (z2) (z) (f) (u) (z2) (f2) (u2) hy0 hy1 hy2 hc0 hc1 hc2 hc3  hu hu2 (by omega) (by omega) (by omega) (by omega) (by omega) (by omega)) hZ hc0 cv_X9_35 rfl rfl ⟨Nat.le_of_ble_eq_true rfl, Nat.le_of_ble_eq_true rfl⟩ rfl hl.1 rfl (Nat.le_of_ble_eq_true rfl) dX9_addAll_7 ⟨(Nat.le_of_ble_eq_true rfl), (Nat.le_of_ble_eq_true rfl)⟩) hZ (fun r5 V2 n3 _ _ hw4 hZ => ?_)
  obtain ⟨rfl, hq6, fr7, z8, u9, ho10, ho11, hp12, hp13⟩ := hw4
  have b14 := hq_rng z8
  have hP := hP.trans hq6 (fun _ h => Bool.noConfusion h)
  have hf15 := hq_rgB hP.1 hy1 ho11
  have b16 := hq_rng r5
  exact hp_zret hx hb hr (hq_nzi (by omega) (by omega)) hlocks hZ ⟨rfl, hP, (fun x8 hne0 hne1 => fr7 x8 hne0 hne1), z8, u9, ho10, ho11, by have e9 : (u2.drop (0 : Int32).toInt.toNat).take (z2.toInt - (0 : Int32).toInt).toNat = u2 := (by rw [show (0 : Int32).toInt = 0 from rfl]; simp only [Int.toNat_zero, List.drop_zero]; exact List.take_of_length_le (by omega)); rw [e9] at hp12; rcases hp12 with ⟨g1, g2, g3⟩ | ⟨g1, g2, g3⟩; (· exact Or.inl ⟨by omega, g2, g3⟩); (· exact Or.inr ⟨by omega, g2, g3⟩), hp13⟩ dX9_addAll_10

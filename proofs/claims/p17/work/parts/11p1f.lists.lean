set_option maxHeartbeats 4000000 in
set_option maxRecDepth 100000 in
theorem x_addBits (l : Launch) (D : va_G) (cs : Nat → ClassId) (B : Nat) (G : hq_G) (V : hp_V) (n : Nat) (hI : hq_I cs G V) (it : Nat) (bits : Int64) (rz : Int32) (rwf : Nat → Int32) (hy0 : G (it) = some (7, 0, 0, 0)) (hy1 : G (it + 1) = some (0, 30, 0, 0)) (hy2 : G (it + 2) = some (1, 30, 0, 0)) (hy3 : G (it + 3) = some (2, 5, 120, 0)) (hc0 : V (it) = some (.inr (2, [.ref (it + 1), .ref (it + 3), .int (rz)]))) (hc1 : V (it + 3) = some (.inl (cs 1, 120, .inl (rwf)))) (hrz : 0 ≤ rz.toInt ∧ rz.toInt ≤ 120) : hp_M l yX2_addBits cX2_addBits 4 none ({ frames := 2, cells := 0, slots := 0, locals := 42 }) D cs B V n [.ref (it), .long (bits)] (hp_QV D cs B (fun V' n' => n = n' ∧ hq_P cs G (fun _ => true) V V' ∧ (∀ x, x ≠ it → x ≠ it + 3 → V' x = V x) ∧ (∃ rz1 : Int32, ∃ rw1 : Nat → Int32, V' (it) = some (.inr (2, [.ref (it + 1), .ref (it + 3), .int (rz1)])) ∧ V' (it + 3) = some (.inl (cs 1, 120, .inl (rw1))) ∧ (0 ≤ rz1.toInt ∧ rz1.toInt ≤ 120)))) 0 0 := by
  refine hp_walk (R0 := RX2) (by decide) rfl ?_ (Nat.le_of_ble_eq_true rfl)
  intro p e s m below meth c ls hx hb hr hts hown hlocks hin hml hZ hl
  have hP : hq_P cs G (fun _ => true) V V := hq_P.rf hI
  have hl : lv_has ls 4 [(0, .ref (it)), (1, .long (bits))] := hl
  have hb_rz := hq_rng rz
  have hf_1 := hq_rg2 hI hy3 hc1
  refine lv_iconst (v := 0) hx hb dX2_addBits_0 (by decide) ?_
  refine lv_istore_n (lv' := [(3, .int (0)), (0, .ref (it)), (1, .long (bits))]) hx hb dX2_addBits_1 rfl hl (by decide) rfl (fun ls hl => ?_)
  have hl3 : (0 : Int32).toInt = 0 := by decide
  suffices lp2 : ∀ (k9 : Nat) (V9 : hp_V) (H9 : Heap) (locs9 : List Loc) (ls : Array Slot) (i : Int32) (rz9 : Int32) (rw9 : Nat → Int32), (100 - i.toInt).toNat = k9 → hp_Z D cs B s V9 H9 n locs9 → hq_P cs G (fun _ => true) V V9 → V9 (it) = some (.inr (2, [.ref (it + 1), .ref (it + 3), .int (rz9)])) → V9 (it + 3) = some (.inl (cs 1, 120, .inl (rw9))) → (∀ x, x ≠ it → x ≠ it + 3 → V9 x = V x) → 0 ≤ i.toInt → i.toInt ≤ 60 → 0 ≤ rz9.toInt ∧ rz9.toInt ≤ 120 → lv_has ls 4 [(3, .int (i)), (0, .ref (it)), (1, .long (bits))] → W p l e ({ frames := 2, cells := 0, slots := 0, locals := 42 }) s m ([.ref (it), .long (bits)] : List Value).toArray below meth c H9 locs9 0 0 (MQ below (hp_QV D cs B (fun V' n' => n = n' ∧ hq_P cs G (fun _ => true) V V' ∧ (∀ x, x ≠ it → x ≠ it + 3 → V' x = V x) ∧ (∃ rz1 : Int32, ∃ rw1 : Nat → Int32, V' (it) = some (.inr (2, [.ref (it + 1), .ref (it + 3), .int (rz1)])) ∧ V' (it + 3) = some (.inl (cs 1, 120, .inl (rw1))) ∧ (0 ≤ rz1.toInt ∧ rz1.toInt ≤ 120)))) ([.ref (it), .long (bits)] : List Value).toArray s 0 0 (hp_F B)) (F0 m 2 ls []) from lp2 _ _ _ _ ls (0) (rz) (rwf) rfl hZ hP hc0 hc1 (fun x8 hne0 hne1 => rfl) (by omega) (by omega) (by omega) (lv_sub hl [0, 1, 2] rfl)
  intro k9
  induction k9 using Nat.strongRecOn with
  | _ k9 ih2 =>
    intro V9 H9 locs9 ls i  rz9 rw9 hk2 hZ hP ho1 ho2 fr2  hv4 hv5 hv6 hl
    have hb_i := hq_rng i
    have hb_rz9 := hq_rng rz9
    have hf7 := hq_rg2 hP.1 hy3 ho2
    refine lv_iload_n hx hb dX2_addBits_2 rfl (lv_at hl 0 rfl) ?_
    refine lv_bipush (v := 60) hx hb dX2_addBits_3 (by decide) ?_
    refine lv_icmp_ge (tgt := 29) hx hb dX2_addBits_5 (by decide) (fun c8 => ?_) (fun c8 => ?_)
    · have c8 : (60 : Int) ≤ (i).toInt := hq_lei.mp c8
      exact hp_vret hx hb hr hlocks hZ ⟨rfl, hP, (fun x8 hne0 hne1 => fr2 x8 hne0 hne1), rz9, rw9, ho1, ho2, by omega⟩ dX2_addBits_29
    · have c8 : ¬ (60 : Int) ≤ (i).toInt := fun h9 => c8 (hq_lei.mpr h9)
      refine lv_lload_n hx hb dX2_addBits_8 rfl (lv_at hl 2 rfl) ?_
      refine lv_iload_n hx hb dX2_addBits_9 rfl (lv_at hl 0 rfl) ?_
      refine lv_lushr (v := ((bits : Int64).toUInt64 >>> ((i : Int32).toInt64.toUInt64 &&& Int64.toUInt64 63)).toInt64) hx hb dX2_addBits_10 rfl ?_
      refine lv_topl (fun y9 ey10 => ?_)
      refine lv_lconst (v := 1) hx hb dX2_addBits_11 (by decide) ?_
      refine lv_land hx hb dX2_addBits_12 ?_
      refine lv_topl (fun y11 ey12 => ?_)
      refine lv_lconst (v := 0) hx hb dX2_addBits_13 (by decide) ?_
      refine W.lcmp hx hb dX2_addBits_14 ?_
      refine lv_topi (fun y13 ey14 => ?_)
      have b15 := hq_rng y13
      refine lv_if_eq (tgt := 23) hx hb dX2_addBits_15 (by decide) (fun c16 => ?_) (fun c16 => ?_)
      · have c16 : (y13).toInt = (0 : Int) := hq_eqi.mp c16
        obtain ⟨y17, ey18⟩ : ∃ y : Int32, y = i + (1) := ⟨_, rfl⟩
        obtain ⟨k19, hk20, b21, b22⟩ := hq_add (i) (1)
        rw [← ey18] at hk20 b21 b22
        have hk20 : (y17).toInt = (i).toInt + (1) + k19 * 4294967296 := hk20
        obtain rfl : k19 = 0 := by omega
        refine lv_iinc (v := y17) (lv' := [(3, .int (y17)), (0, .ref (it)), (1, .long (bits))]) hx hb dX2_addBits_23 hl (k := 0) rfl (by rw [ey18]; rfl) (by decide) rfl (fun ls hl => ?_)
        refine lv_goto (tgt := 2) hx hb dX2_addBits_26 (by decide) ?_
        exact ih2 _ (by omega) _ _ _ ls (y17) (rz9) (rw9) rfl hZ hP ho1 ho2 (fun x8 hne0 hne1 => fr2 x8 hne0 hne1) (by omega) (by omega) (by omega) (lv_sub hl [0, 1, 2] rfl)
      · have c16 : ¬ (y13).toInt = (0 : Int) := fun h9 => c16 (hq_eqi.mpr h9)
        refine lv_aload_n hx hb dX2_addBits_18 rfl (lv_at hl 1 rfl) ?_
        refine lv_iload_n hx hb dX2_addBits_19 rfl (lv_at hl 0 rfl) ?_
        refine hp_callv (hp_runV (As := [.int (i)]) (rest := []) hx hb hml hown hts (x_addLine l D cs B G V9 n hP.1 (it) (i) (rz9) (rw9) hy0 hy1 hy2 hy3 ho1 ho2  (by omega)) hZ ho1 cv_X2_31 rfl rfl ⟨Nat.le_of_ble_eq_true rfl, Nat.le_of_ble_eq_true rfl⟩ rfl hl.1 rfl (Nat.le_of_ble_eq_true rfl) dX2_addBits_20 ⟨(Nat.le_of_ble_eq_true rfl), (Nat.le_of_ble_eq_true rfl)⟩) hZ (fun V23 n24 _ _ hw25 hZ => ?_)
        obtain ⟨rfl, hq27, fr28, z29, u30, ho31, ho32, hp33⟩ := hw25
        have b34 := hq_rng z29
        have hP := hP.trans hq27 (fun _ h => Bool.noConfusion h)
        have hf35 := hq_rg2 hP.1 hy3 ho32
        obtain ⟨y36, ey37⟩ : ∃ y : Int32, y = i + (1) := ⟨_, rfl⟩
        obtain ⟨k38, hk39, b40, b41⟩ := hq_add (i) (1)
        rw [← ey37] at hk39 b40 b41
        have hk39 : (y36).toInt = (i).toInt + (1) + k38 * 4294967296 := hk39
        obtain rfl : k38 = 0 := by omega
        refine lv_iinc (v := y36) (lv' := [(3, .int (y36)), (0, .ref (it)), (1, .long (bits))]) hx hb dX2_addBits_23 hl (k := 0) rfl (by rw [ey37]; rfl) (by decide) rfl (fun ls hl => ?_)
        refine lv_goto (tgt := 2) hx hb dX2_addBits_26 (by decide) ?_
        exact ih2 _ (by omega) _ _ _ ls (y36) (z29) (u30) rfl hZ hP ho31 ho32 (fun x8 hne0 hne1 => (fr28 x8 hne0 hne1).trans (fr2 x8 hne0 hne1)) (by omega) (by omega) (by omega) (lv_sub hl [0, 1, 2] rfl)

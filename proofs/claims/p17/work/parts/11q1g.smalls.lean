set_option maxHeartbeats 4000000 in
set_option maxRecDepth 100000 in
theorem x_mbits (l : Launch) (D : va_G) (cs : Nat → ClassId) (B : Nat) (G : hq_G) (V : hp_V) (n : Nat) (hI : hq_I cs G V) (kb : Nat) (qt : Nat) (e_fd : Int32) (e_sz : Int32) (mm : Nat → Int32) (hc0 : V (kb + 50) = some (.inr (1, [.ref (kb + 51), .ref (kb + 52), .int (e_fd), .ref (kb + 53), .ref (kb + 55), .ref (kb + 57), .ref (qt), .ref (kb), .ref (kb + 5), .int (e_sz), .ref (kb + 59), .ref (kb + 60), .ref (kb + 61)]))) (hc1 : V (kb + 60) = some (.inl (cs 1, 2, .inl (mm)))) (hes : 0 ≤ e_sz.toInt ∧ e_sz.toInt ≤ 2) : hp_M l yX1_missedBits cX1_missedBits 4 (some .long) ({ frames := 1, cells := 0, slots := 0, locals := 21 }) D cs B V n [.ref (kb + 50)] (hp_QL D cs B (fun r V' n' => n = n' ∧ V = V')) 0 0 := by
  refine hp_walk (R0 := RX1) (by decide) rfl ?_ (Nat.le_of_ble_eq_true rfl)
  intro p e s m below meth c ls hx hb hr hts hown hlocks hin hml hZ hl
  have hP : hq_I cs G V := hI
  have hl : lv_has ls 4 [(0, .ref (kb + 50))] := hl
  have hb_e_fd := hq_rng e_fd
  have hb_e_sz := hq_rng e_sz
  refine lv_lconst (v := 0) hx hb dX1_missedBits_0 (by decide) ?_
  refine lv_lstore_n (lv' := [(1, .long (0)), (0, .ref (kb + 50))]) hx hb dX1_missedBits_1 rfl hl (by decide) rfl (fun ls hl => ?_)
  refine lv_iconst (v := 0) hx hb dX1_missedBits_2 (by decide) ?_
  refine lv_istore_n (lv' := [(3, .int (0)), (1, .long (0)), (0, .ref (kb + 50))]) hx hb dX1_missedBits_3 rfl hl (by decide) rfl (fun ls hl => ?_)
  have hl1 : (0 : Int32).toInt = 0 := by decide
  suffices lp4 : ∀ (k9 : Nat) (H9 : Heap) (locs9 : List Loc) (ls : Array Slot) (bits : Int64) (i : Int32), (100 - i.toInt).toNat = k9 → hp_Z D cs B s V H9 n locs9 → hq_I cs G V → 0 ≤ i.toInt → i.toInt ≤ 2 → lv_has ls 4 [(3, .int (i)), (1, .long (bits)), (0, .ref (kb + 50))] → W p l e ({ frames := 1, cells := 0, slots := 0, locals := 21 }) s m ([.ref (kb + 50)] : List Value).toArray below meth c H9 locs9 0 0 (MQ below (hp_QL D cs B (fun r V' n' => n = n' ∧ V = V')) ([.ref (kb + 50)] : List Value).toArray s 0 0 (hp_F B)) (F0 m 4 ls []) from lp4 _ _ _ ls (0) (0) rfl hZ hP (by omega) (by omega) (lv_sub hl [0, 1, 2] rfl)
  intro k9
  induction k9 using Nat.strongRecOn with
  | _ k9 ih4 =>
    intro H9 locs9 ls bits i   hk4 hZ hP    hv2 hv3 hl
    have hb_i := hq_rng i
    refine lv_iload_n hx hb dX1_missedBits_4 rfl (lv_at hl 0 rfl) ?_
    refine lv_aload_n hx hb dX1_missedBits_5 rfl (lv_at hl 2 rfl) ?_
    refine hp_get (v := .int (e_sz)) hx hb hts hown hZ hc0 fl_X1_46 rfl dX1_missedBits_6 ?_
    refine lv_icmp_ge (tgt := 43) hx hb dX1_missedBits_9 (by decide) (fun c4 => ?_) (fun c4 => ?_)
    · have c4 : (e_sz).toInt ≤ (i).toInt := hq_lei.mp c4
      refine lv_lload_n hx hb dX1_missedBits_43 rfl (lv_at hl 1 rfl) ?_
      exact hp_lret hx hb hr hlocks hZ ⟨rfl, rfl⟩ dX1_missedBits_44
    · have c4 : ¬ (e_sz).toInt ≤ (i).toInt := fun h9 => c4 (hq_lei.mpr h9)
      refine lv_lload_n hx hb dX1_missedBits_12 rfl (lv_at hl 1 rfl) ?_
      refine lv_aload_n hx hb dX1_missedBits_13 rfl (lv_at hl 2 rfl) ?_
      refine hp_get (v := .ref (kb + 60)) hx hb hts hown hZ hc0 fl_X1_40 rfl dX1_missedBits_14 ?_
      refine lv_iload_n hx hb dX1_missedBits_17 rfl (lv_at hl 0 rfl) ?_
      refine hp_iald hx hb hZ hc1 (hq_in (by omega) (by omega)) dX1_missedBits_18 ?_
      refine lv_topi (fun y5 ey6 => ?_)
      have b7 := hq_rng y5
      refine lv_iconst (v := -1) hx hb dX1_missedBits_19 (by decide) ?_
      refine lv_icmp_ne (tgt := 27) hx hb dX1_missedBits_20 (by decide) (fun c8 => ?_) (fun c8 => ?_)
      · have c8 : ¬ (y5).toInt = (-1 : Int) := fun h9 => c8 (hq_eqi.mpr h9)
        refine lv_lconst (v := 1) hx hb dX1_missedBits_27 (by decide) ?_
        refine lv_aload_n hx hb dX1_missedBits_28 rfl (lv_at hl 2 rfl) ?_
        refine hp_get (v := .ref (kb + 60)) hx hb hts hown hZ hc0 fl_X1_40 rfl dX1_missedBits_29 ?_
        refine lv_iload_n hx hb dX1_missedBits_32 rfl (lv_at hl 0 rfl) ?_
        refine hp_iald hx hb hZ hc1 (hq_in (by omega) (by omega)) dX1_missedBits_33 ?_
        refine lv_topi (fun y9 ey10 => ?_)
        have b11 := hq_rng y9
        refine lv_lshl (v := (1 : Int64) <<< ((y9 : Int32).toInt64 &&& 63)) hx hb dX1_missedBits_34 rfl ?_
        refine lv_topl (fun y12 ey13 => ?_)
        refine lv_lor hx hb dX1_missedBits_35 ?_
        refine lv_topl (fun y14 ey15 => ?_)
        refine lv_lstore_n (lv' := [(1, .long (y14)), (3, .int (i)), (0, .ref (kb + 50))]) hx hb dX1_missedBits_36 rfl hl (by decide) rfl (fun ls hl => ?_)
        obtain ⟨y16, ey17⟩ : ∃ y : Int32, y = i + (1) := ⟨_, rfl⟩
        obtain ⟨k18, hk19, b20, b21⟩ := hq_add (i) (1)
        rw [← ey17] at hk19 b20 b21
        have hk19 : (y16).toInt = (i).toInt + (1) + k18 * 4294967296 := hk19
        obtain rfl : k18 = 0 := by omega
        refine lv_iinc (v := y16) (lv' := [(3, .int (y16)), (1, .long (y14)), (0, .ref (kb + 50))]) hx hb dX1_missedBits_37 hl (k := 1) rfl (by rw [ey17]; rfl) (by decide) rfl (fun ls hl => ?_)
        refine lv_goto (tgt := 4) hx hb dX1_missedBits_40 (by decide) ?_
        exact ih4 _ (hq_dn hk4 (by omega) (by omega)) _ _ ls (y14) (y16) rfl hZ hP (by omega) (by omega) (lv_sub hl [0, 1, 2] rfl)
      · have c8 : (y5).toInt = (-1 : Int) := hq_eqi.mp c8
        refine lv_lconst (v := 0) hx hb dX1_missedBits_23 (by decide) ?_
        refine lv_goto (tgt := 35) hx hb dX1_missedBits_24 (by decide) ?_
        refine lv_lor hx hb dX1_missedBits_35 ?_
        refine lv_topl (fun y22 ey23 => ?_)
        refine lv_lstore_n (lv' := [(1, .long (y22)), (3, .int (i)), (0, .ref (kb + 50))]) hx hb dX1_missedBits_36 rfl hl (by decide) rfl (fun ls hl => ?_)
        obtain ⟨y24, ey25⟩ : ∃ y : Int32, y = i + (1) := ⟨_, rfl⟩
        obtain ⟨k26, hk27, b28, b29⟩ := hq_add (i) (1)
        rw [← ey25] at hk27 b28 b29
        have hk27 : (y24).toInt = (i).toInt + (1) + k26 * 4294967296 := hk27
        obtain rfl : k26 = 0 := by omega
        refine lv_iinc (v := y24) (lv' := [(3, .int (y24)), (1, .long (y22)), (0, .ref (kb + 50))]) hx hb dX1_missedBits_37 hl (k := 1) rfl (by rw [ey25]; rfl) (by decide) rfl (fun ls hl => ?_)
        refine lv_goto (tgt := 4) hx hb dX1_missedBits_40 (by decide) ?_
        exact ih4 _ (hq_dn hk4 (by omega) (by omega)) _ _ ls (y22) (y24) rfl hZ hP (by omega) (by omega) (lv_sub hl [0, 1, 2] rfl)

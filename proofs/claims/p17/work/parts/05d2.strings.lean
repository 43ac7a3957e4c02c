theorem hs_all : ∀ i, i < 18 → (hp_sl.getD i 0 < 100 ∧ Int32.ofNat (hp_sl.getD i 0) >>> ((0 : Int32) &&& 31) = Int32.ofNat (hp_sl.getD i 0)) := by decide +kernel
/-- the char at k of constant i -/
def hs_ch (i : Nat) (k : Int32) : Int32 := ((hp_sb.getD i []).getD k.toNatClampNeg 0) &&& 255
theorem hs_ofn {N : Nat} (h : N ≤ 100000) : (Int32.ofNat N).toInt = N := Int32.toInt_ofNat_of_lt (by omega)
theorem hs_ir {x : Int32} : -2147483648 ≤ x.toInt ∧ x.toInt ≤ 2147483647 := ⟨Int32.le_toInt x, by have := Int32.toInt_lt x; omega⟩
theorem hs_in {i : Int32} {N : Nat} (h0 : 0 ≤ i.toInt) (h1 : i.toInt < N) : vp_in i N := by
  intro h
  rcases h with h | h
  · rw [Int32.lt_iff_toInt_lt] at h
    have : (0 : Int32).toInt = 0 := rfl
    omega
  · have : i.toNatClampNeg = i.toInt.toNat := rfl
    omega

set_option maxHeartbeats 4000000 in
theorem s_coder (l : Launch) (D : va_G) (cs : Nat → ClassId) (B : Nat) (V : hp_V) (n : Nat) (i : Nat) (hi : i < 18) : hp_M l yJ0_coder_7d493 cJ0_coder_7d493 1 (some .byte) ({ frames := 1, cells := 0, slots := 0, locals := 21 }) D cs B V n [.ref (cs (100 + i))] (hp_QI D cs B (fun r V' n' => n = n' ∧ V = V' ∧ r = 0)) 0 0 := by
  refine hp_walk (R0 := RJ0) (by decide) rfl ?_ (Nat.le_of_ble_eq_true rfl)
  intro p e s m below meth c ls hx hb hr hts hown hlocks hin hml hZ hl
  have hl : lv_has ls 1 [(0, .ref (cs (100 + i)))] := hl
  refine va_gets hx hb hZ.2.2.2.2.2.2.2.1 hZ.2.1 hown (hts _ gs_J0_38) (fun _ h9 => h9) dJ0_coder_7d493_0 ?_
  refine lv_if_eq (tgt := 13) hx hb dJ0_coder_7d493_3 (by decide) (fun c1 => absurd c1 (by decide)) (fun c1 => ?_)
  refine lv_aload_n hx hb dJ0_coder_7d493_6 rfl (lv_at hl 0 rfl) ?_
  refine vk_getf hx hb (hZ.2.2.2.2.2.2.2.2.2.1.1 i hi).2.1 hZ.2.1 hown (hts _ jf_J0_15) (fun _ h9 => h9) dJ0_coder_7d493_7 ?_
  refine lv_goto (tgt := 14) hx hb dJ0_coder_7d493_10 (by decide) ?_
  exact hp_zret hx hb hr rfl hlocks hZ ⟨rfl, rfl, rfl⟩ dJ0_coder_7d493_14

set_option maxHeartbeats 4000000 in
theorem s_latin (l : Launch) (D : va_G) (cs : Nat → ClassId) (B : Nat) (V : hp_V) (n : Nat) (i : Nat) (hi : i < 18) : hp_M l yJ0_isLatin1_aae02 cJ0_isLatin1_aae02 1 (some .boolean) ({ frames := 1, cells := 0, slots := 0, locals := 21 }) D cs B V n [.ref (cs (100 + i))] (hp_QI D cs B (fun r V' n' => n = n' ∧ V = V' ∧ r = 1)) 0 0 := by
  refine hp_walk (R0 := RJ0) (by decide) rfl ?_ (Nat.le_of_ble_eq_true rfl)
  intro p e s m below meth c ls hx hb hr hts hown hlocks hin hml hZ hl
  have hl : lv_has ls 1 [(0, .ref (cs (100 + i)))] := hl
  refine va_gets hx hb hZ.2.2.2.2.2.2.2.1 hZ.2.1 hown (hts _ gs_J0_38) (fun _ h9 => h9) dJ0_isLatin1_aae02_0 ?_
  refine lv_if_eq (tgt := 17) hx hb dJ0_isLatin1_aae02_3 (by decide) (fun c1 => absurd c1 (by decide)) (fun c1 => ?_)
  refine lv_aload_n hx hb dJ0_isLatin1_aae02_6 rfl (lv_at hl 0 rfl) ?_
  refine vk_getf hx hb (hZ.2.2.2.2.2.2.2.2.2.1.1 i hi).2.1 hZ.2.1 hown (hts _ jf_J0_15) (fun _ h9 => h9) dJ0_isLatin1_aae02_7 ?_
  refine lv_if_ne (tgt := 17) hx hb dJ0_isLatin1_aae02_10 (by decide) (fun c1 => absurd rfl c1) (fun c1 => ?_)
  refine lv_iconst (v := 1) hx hb dJ0_isLatin1_aae02_13 (by decide) ?_
  refine lv_goto (tgt := 18) hx hb dJ0_isLatin1_aae02_14 (by decide) ?_
  exact hp_zret hx hb hr rfl hlocks hZ ⟨rfl, rfl, rfl⟩ dJ0_isLatin1_aae02_18

set_option maxHeartbeats 4000000 in
theorem s_length (l : Launch) (D : va_G) (cs : Nat → ClassId) (B : Nat) (V : hp_V) (n : Nat) (i : Nat) (hi : i < 18) : hp_M l yJ0_length_8abf5 cJ0_length_8abf5 1 (some .int) ({ frames := 2, cells := 0, slots := 0, locals := 41 }) D cs B V n [.ref (cs (100 + i))] (hp_QI D cs B (fun r V' n' => n = n' ∧ V = V' ∧ r = Int32.ofNat (hp_sl.getD i 0))) 0 0 := by
  refine hp_walk (R0 := RJ0) (by decide) rfl ?_ (Nat.le_of_ble_eq_true rfl)
  intro p e s m below meth c ls hx hb hr hts hown hlocks hin hml hZ hl
  have hl : lv_has ls 1 [(0, .ref (cs (100 + i)))] := hl
  refine lv_aload_n hx hb dJ0_length_8abf5_0 rfl (lv_at hl 0 rfl) ?_
  refine vk_getf hx hb (hZ.2.2.2.2.2.2.2.2.2.1.1 i hi).2.2.1 hZ.2.1 hown (hts _ jf_J0_9) (fun _ h9 => h9) dJ0_length_8abf5_1 ?_
  refine va_tlen hx hb (hZ.2.2.2.2.2.2.2.2.2.1.1 i hi).2.2.2 hZ.2.1 (v := Int32.ofNat (hp_sl.getD i 0)) rfl dJ0_length_8abf5_4 ?_
  refine lv_aload_n hx hb dJ0_length_8abf5_5 rfl (lv_at hl 0 rfl) ?_
  refine hp_calli (hp_runVS (As := []) (rest := [.int (Int32.ofNat (hp_sl.getD i 0))]) hx hb hml hown hts (s_coder l D cs B V n i hi) hZ hi rfl cv_J0_335 rfl rfl ⟨Nat.le_of_ble_eq_true rfl, Nat.le_of_ble_eq_true rfl⟩ rfl hl.1 rfl (Nat.le_of_ble_eq_true rfl) dJ0_length_8abf5_6 ⟨(Nat.le_of_ble_eq_true rfl), (Nat.le_of_ble_eq_true rfl)⟩) hZ (fun r1 V1 n1 _ _ hw hZ => ?_)
  obtain ⟨rfl, rfl, rfl⟩ := hw
  refine lv_ishr hx hb dJ0_length_8abf5_9 ?_
  refine lv_topi (fun y ey => ?_)
  obtain rfl : y = Int32.ofNat (hp_sl.getD i 0) := ey.trans (hs_all i hi).2
  exact hp_iret hx hb hr hlocks hZ ⟨rfl, rfl, rfl⟩ dJ0_length_8abf5_10

set_option maxHeartbeats 4000000 in
theorem s_chk3n (l : Launch) (D : va_G) (cs : Nat → ClassId) (B : Nat) (V : hp_V) (n : Nat) (x y : Int32) (h0 : ¬ x < 0) (h1 : x < y) : hp_M l yJ3_checkIndex_8e157 cJ3_checkIndex_8e157 3 (some .int) ({ frames := 1, cells := 0, slots := 0, locals := 21 }) D cs B V n [.int (x), .int (y), .null] (hp_QI D cs B (fun r V' n' => n = n' ∧ V = V' ∧ True)) 0 0 := by
  refine hp_walk (R0 := RJ3) (by decide) rfl ?_ (Nat.le_of_ble_eq_true rfl)
  intro p e s m below meth c ls hx hb hr hts hown hlocks hin hml hZ hl
  have hl : lv_has ls 3 [(0, .int (x)), (1, .int (y)), (2, .null)] := hl
  refine lv_iload_n hx hb dJ3_checkIndex_8e157_0 rfl (lv_at hl 0 rfl) ?_
  refine lv_if_lt (tgt := 9) hx hb dJ3_checkIndex_8e157_1 (by decide) (fun c1 => absurd c1 h0) (fun c1 => ?_)
  refine lv_iload_n hx hb dJ3_checkIndex_8e157_4 rfl (lv_at hl 0 rfl) ?_
  refine lv_iload_n hx hb dJ3_checkIndex_8e157_5 rfl (lv_at hl 1 rfl) ?_
  refine lv_icmp_lt (tgt := 16) hx hb dJ3_checkIndex_8e157_6 (by decide) (fun c1 => ?_) (fun c1 => absurd h1 c1)
  refine lv_iload_n hx hb dJ3_checkIndex_8e157_16 rfl (lv_at hl 0 rfl) ?_
  exact hp_iret hx hb hr hlocks hZ ⟨rfl, rfl, trivial⟩ dJ3_checkIndex_8e157_17

set_option maxHeartbeats 4000000 in
theorem s_chk3r (l : Launch) (D : va_G) (cs : Nat → ClassId) (B : Nat) (V : hp_V) (n : Nat) (q : Nat) (x y : Int32) (h0 : ¬ x < 0) (h1 : x < y) : hp_M l yJ3_checkIndex_8e157 cJ3_checkIndex_8e157 3 (some .int) ({ frames := 1, cells := 0, slots := 0, locals := 21 }) D cs B V n [.int (x), .int (y), .ref (q)] (hp_QI D cs B (fun r V' n' => n = n' ∧ V = V' ∧ True)) 0 0 := by
  refine hp_walk (R0 := RJ3) (by decide) rfl ?_ (Nat.le_of_ble_eq_true rfl)
  intro p e s m below meth c ls hx hb hr hts hown hlocks hin hml hZ hl
  have hl : lv_has ls 3 [(0, .int (x)), (1, .int (y)), (2, .ref (q))] := hl
  refine lv_iload_n hx hb dJ3_checkIndex_8e157_0 rfl (lv_at hl 0 rfl) ?_
  refine lv_if_lt (tgt := 9) hx hb dJ3_checkIndex_8e157_1 (by decide) (fun c1 => absurd c1 h0) (fun c1 => ?_)
  refine lv_iload_n hx hb dJ3_checkIndex_8e157_4 rfl (lv_at hl 0 rfl) ?_
  refine lv_iload_n hx hb dJ3_checkIndex_8e157_5 rfl (lv_at hl 1 rfl) ?_
  refine lv_icmp_lt (tgt := 16) hx hb dJ3_checkIndex_8e157_6 (by decide) (fun c1 => ?_) (fun c1 => absurd h1 c1)
  refine lv_iload_n hx hb dJ3_checkIndex_8e157_16 rfl (lv_at hl 0 rfl) ?_
  exact hp_iret hx hb hr hlocks hZ ⟨rfl, rfl, trivial⟩ dJ3_checkIndex_8e157_17

set_option maxHeartbeats 4000000 in
theorem s_chk0 (l : Launch) (D : va_G) (cs : Nat → ClassId) (B : Nat) (V : hp_V) (n : Nat) (x y : Int32) (h0 : ¬ x < 0) (h1 : x < y) : hp_M l yJ0_checkIndex_df160 cJ0_checkIndex_df160 2 none ({ frames := 2, cells := 0, slots := 0, locals := 43 }) D cs B V n [.int (x), .int (y)] (hp_QV D cs B (fun V' n' => n = n' ∧ V = V')) 0 0 := by
  refine hp_walk (R0 := RJ0) (by decide) rfl ?_ (Nat.le_of_ble_eq_true rfl)
  intro p e s m below meth c ls hx hb hr hts hown hlocks hin hml hZ hl
  have hl : lv_has ls 2 [(0, .int (x)), (1, .int (y))] := hl
  refine lv_iload_n hx hb dJ0_checkIndex_df160_0 rfl (lv_at hl 0 rfl) ?_
  refine lv_iload_n hx hb dJ0_checkIndex_df160_1 rfl (lv_at hl 1 rfl) ?_
  refine hp_gets hx hb hts hown hZ hZ.2.2.2.2.2.2.2.2.1 gs_J0_1053 dJ0_checkIndex_df160_2 (fun v9 hv9 => ?_)
  rcases hv9 with rfl | ⟨t9, rfl⟩
  · refine hp_calli (hp_runS (As := [.int x, .int y, .null]) (rest := []) hx hb hml hown hts (s_chk3n l D cs B V n x y h0 h1) hZ cv_J0_1059 rfl rfl ⟨Nat.le_of_ble_eq_true rfl, Nat.le_of_ble_eq_true rfl⟩ rfl hl.1 rfl (Nat.le_of_ble_eq_true rfl) dJ0_checkIndex_df160_5 ⟨(Nat.le_of_ble_eq_true rfl), (Nat.le_of_ble_eq_true rfl)⟩) hZ (fun r1 V1 n1 _ _ hw hZ => ?_)
    obtain ⟨rfl, rfl, -⟩ := hw
    refine lv_pop hx hb dJ0_checkIndex_df160_8 rfl ?_
    exact hp_vret hx hb hr hlocks hZ ⟨rfl, rfl⟩ dJ0_checkIndex_df160_9
  · refine hp_calli (hp_runS (As := [.int x, .int y, .ref t9]) (rest := []) hx hb hml hown hts (s_chk3r l D cs B V n t9 x y h0 h1) hZ cv_J0_1059 rfl rfl ⟨Nat.le_of_ble_eq_true rfl, Nat.le_of_ble_eq_true rfl⟩ rfl hl.1 rfl (Nat.le_of_ble_eq_true rfl) dJ0_checkIndex_df160_5 ⟨(Nat.le_of_ble_eq_true rfl), (Nat.le_of_ble_eq_true rfl)⟩) hZ (fun r1 V1 n1 _ _ hw hZ => ?_)
    obtain ⟨rfl, rfl, -⟩ := hw
    refine lv_pop hx hb dJ0_checkIndex_df160_8 rfl ?_
    exact hp_vret hx hb hr hlocks hZ ⟨rfl, rfl⟩ dJ0_checkIndex_df160_9

set_option maxHeartbeats 4000000 in
theorem s_char1 (l : Launch) (D : va_G) (cs : Nat → ClassId) (B : Nat) (V : hp_V) (n : Nat) (i : Nat) (hi : i < 18) (k : Int32) (hk0 : 0 ≤ k.toInt) (hk1 : k.toInt < hp_sl.getD i 0) : hp_M l yJ1_charAt_3b067 cJ1_charAt_3b067 2 (some .char) ({ frames := 3, cells := 0, slots := 0, locals := 64 }) D cs B V n [.ref (cs (200 + i)), .int (k)] (hp_QI D cs B (fun r V' n' => n = n' ∧ V = V' ∧ r = hs_ch i k)) 0 0 := by
  refine hp_walk (R0 := RJ1) (by decide) rfl ?_ (Nat.le_of_ble_eq_true rfl)
  intro p e s m below meth c ls hx hb hr hts hown hlocks hin hml hZ hl
  have hl : lv_has ls 2 [(0, .ref (cs (200 + i))), (1, .int (k))] := hl
  have hN := (hs_all i hi).1
  have h0 : ¬ k < 0 := fun h9 => by have h8 : k.toInt < (0 : Int32).toInt := Int32.lt_iff_toInt_lt.mp h9; have h7 : (0 : Int32).toInt = 0 := rfl; omega
  have h1 : k < Int32.ofNat (hp_sl.getD i 0) := Int32.lt_iff_toInt_lt.mpr (by rw [hs_ofn (by omega)]; exact hk1)
  refine lv_iload_n hx hb dJ1_charAt_3b067_0 rfl (lv_at hl 1 rfl) ?_
  refine lv_aload_n hx hb dJ1_charAt_3b067_1 rfl (lv_at hl 0 rfl) ?_
  refine va_tlen hx hb (hZ.2.2.2.2.2.2.2.2.2.1.1 i hi).2.2.2 hZ.2.1 (v := Int32.ofNat (hp_sl.getD i 0)) rfl dJ1_charAt_3b067_2 ?_
  refine hp_callv (hp_runS (As := [.int k, .int (Int32.ofNat (hp_sl.getD i 0))]) (rest := []) hx hb hml hown hts (s_chk0 l D cs B V n k (Int32.ofNat (hp_sl.getD i 0)) h0 h1) hZ cv_J1_9 rfl rfl ⟨Nat.le_of_ble_eq_true rfl, Nat.le_of_ble_eq_true rfl⟩ rfl hl.1 rfl (Nat.le_of_ble_eq_true rfl) dJ1_charAt_3b067_3 ⟨(Nat.le_of_ble_eq_true rfl), (Nat.le_of_ble_eq_true rfl)⟩) hZ (fun V1 n1 _ _ hw hZ => ?_)
  obtain ⟨rfl, rfl⟩ := hw
  refine lv_aload_n hx hb dJ1_charAt_3b067_6 rfl (lv_at hl 0 rfl) ?_
  refine lv_iload_n hx hb dJ1_charAt_3b067_7 rfl (lv_at hl 1 rfl) ?_
  refine va_tb hx hb (hZ.2.2.2.2.2.2.2.2.2.1.1 i hi).2.2.2 hZ.2.1 (hs_in hk0 hk1) rfl dJ1_charAt_3b067_8 ?_
  refine lv_sipush (v := 255) hx hb dJ1_charAt_3b067_9 (by decide) ?_
  refine lv_iand hx hb dJ1_charAt_3b067_12 ?_
  refine lv_i2c (v := hs_ch i k) hx hb dJ1_charAt_3b067_13 (by first | exact sc_c2 _ | exact (sc_c2 _).symm) ?_
  exact hp_zret hx hb hr (sc_nar _) hlocks hZ ⟨rfl, rfl, rfl⟩ dJ1_charAt_3b067_14

set_option maxHeartbeats 4000000 in
theorem s_charAt (l : Launch) (D : va_G) (cs : Nat → ClassId) (B : Nat) (V : hp_V) (n : Nat) (i : Nat) (hi : i < 18) (k : Int32) (hk0 : 0 ≤ k.toInt) (hk1 : k.toInt < hp_sl.getD i 0) : hp_M l yJ0_charAt_5068e cJ0_charAt_5068e 2 (some .char) ({ frames := 4, cells := 0, slots := 0, locals := 85 }) D cs B V n [.ref (cs (100 + i)), .int (k)] (hp_QI D cs B (fun r V' n' => n = n' ∧ V = V' ∧ r = hs_ch i k)) 0 0 := by
  refine hp_walk (R0 := RJ0) (by decide) rfl ?_ (Nat.le_of_ble_eq_true rfl)
  intro p e s m below meth c ls hx hb hr hts hown hlocks hin hml hZ hl
  have hl : lv_has ls 2 [(0, .ref (cs (100 + i))), (1, .int (k))] := hl
  refine lv_aload_n hx hb dJ0_charAt_5068e_0 rfl (lv_at hl 0 rfl) ?_
  refine hp_calli (hp_runVS (As := []) (rest := []) hx hb hml hown hts (s_latin l D cs B V n i hi) hZ hi rfl cv_J0_492 rfl rfl ⟨Nat.le_of_ble_eq_true rfl, Nat.le_of_ble_eq_true rfl⟩ rfl hl.1 rfl (Nat.le_of_ble_eq_true rfl) dJ0_charAt_5068e_1 ⟨(Nat.le_of_ble_eq_true rfl), (Nat.le_of_ble_eq_true rfl)⟩) hZ (fun r1 V1 n1 _ _ hw hZ => ?_)
  obtain ⟨rfl, rfl, rfl⟩ := hw
  refine lv_if_eq (tgt := 16) hx hb dJ0_charAt_5068e_4 (by decide) (fun c1 => absurd c1 (by decide)) (fun c1 => ?_)
  refine lv_aload_n hx hb dJ0_charAt_5068e_7 rfl (lv_at hl 0 rfl) ?_
  refine vk_getf hx hb (hZ.2.2.2.2.2.2.2.2.2.1.1 i hi).2.2.1 hZ.2.1 hown (hts _ jf_J0_9) (fun _ h9 => h9) dJ0_charAt_5068e_8 ?_
  refine lv_iload_n hx hb dJ0_charAt_5068e_11 rfl (lv_at hl 1 rfl) ?_
  refine hp_calli (hp_runS (As := [.ref (cs (200 + i)), .int k]) (rest := []) hx hb hml hown hts (s_char1 l D cs B V n i hi k hk0 hk1) hZ cv_J0_495 rfl rfl ⟨Nat.le_of_ble_eq_true rfl, Nat.le_of_ble_eq_true rfl⟩ rfl hl.1 rfl (Nat.le_of_ble_eq_true rfl) dJ0_charAt_5068e_12 ⟨(Nat.le_of_ble_eq_true rfl), (Nat.le_of_ble_eq_true rfl)⟩) hZ (fun r2 V2 n2 _ _ hw2 hZ => ?_)
  have hN := (hs_all i hi).1
  obtain ⟨rfl, rfl, rfl⟩ := hw2
  exact hp_zret hx hb hr (sc_nar _) hlocks hZ ⟨rfl, rfl, rfl⟩ dJ0_charAt_5068e_15

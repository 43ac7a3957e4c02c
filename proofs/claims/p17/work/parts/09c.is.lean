set_option maxHeartbeats 4000000 in
set_option maxRecDepth 100000 in
theorem y_is (l : Launch) (D : va_G) (cs : Nat → ClassId) (B : Nat) (G : hq_G) (V : hp_V) (n : Nat) (hI : hq_I cs G V) (q : Nat) (mo : Nat) (w : sp_W) (j : Nat) (i : Nat) (kn : Nat) (m_tp : Int32) (m_sz : Int32) (m_fr : Int32) (m_bh : Int32) (m_hd : Int32) (m_ft : Int32) (m_fa : Int32) (m_le : Int32) (m_fo : Int32) (m_as : Int32) (m_fd : Int32) (m_bc : Int32) (m_bg : Int32) (m_bs : Int32) (m_be : Int32) (m_b0 : Int32) (m_b1 : Int32) (m_cm : Int32) (m_hc : Int32) (hc0 : V (mo) = some (.inr (13, hm_o q (m_tp) (m_sz) (m_fr) (m_bh) (m_hd) (m_ft) (m_fa) (m_le) (m_fo) (m_as) (m_fd) (m_bc) (m_bg) (m_bs) (m_be) (m_b0) (m_b1) (m_cm) (m_hc)))) (hp0 : hm_TP cs V q w) (hR : hq_RT G q) (hmo : G mo = some (24, 0, 0, 0)) (hsz : m_sz.toInt = w.2) (hA : hm_A w j m_fr m_bh m_hd) (h_i : i < 18) (h_i0 : 0 < i) (hkn : sp_kwi.getD i 0 = kn) : hp_M l yX13_is cX13_is 4 (some .boolean) ({ frames := 5, cells := 0, slots := 0, locals := 106 }) D cs B V n [.ref (mo), .ref (cs (100 + i))] (hp_QI D cs B (fun r V' n' => n = n' ∧ V = V' ∧ ((r.toInt = 1 ∧ sp_k w j = (kn : Int)) ∨ (r.toInt = 0 ∧ ¬ sp_k w j = (kn : Int))))) 0 0 := by
  refine hp_walk (R0 := RX13) (by decide) rfl ?_ (Nat.le_of_ble_eq_true rfl)
  intro p e s m below meth c ls hx hb hr hts hown hlocks hin hml hZ hl
  have hP : hq_I cs G V := hI
  have hl : lv_has ls 4 [(0, .ref (mo)), (1, .ref (cs (100 + i)))] := hl
  have hb_m_tp := hq_rng m_tp
  have hb_m_sz := hq_rng m_sz
  have hb_m_fr := hq_rng m_fr
  have hb_m_bh := hq_rng m_bh
  have hb_m_hd := hq_rng m_hd
  have hb_m_ft := hq_rng m_ft
  have hb_m_fa := hq_rng m_fa
  have hb_m_le := hq_rng m_le
  have hb_m_fo := hq_rng m_fo
  have hb_m_as := hq_rng m_as
  have hb_m_fd := hq_rng m_fd
  have hb_m_bc := hq_rng m_bc
  have hb_m_bg := hq_rng m_bg
  have hb_m_bs := hq_rng m_bs
  have hb_m_be := hq_rng m_be
  have hb_m_b0 := hq_rng m_b0
  have hb_m_b1 := hq_rng m_b1
  have hb_m_cm := hq_rng m_cm
  have hb_m_hc := hq_rng m_hc
  obtain ⟨b1, b2, b3, -⟩ := id hA
  obtain ⟨tg, htg, hok, hz3⟩ := id hp0
  have hz2 := hok.1
  have hsl := (hs_all i h_i).1
  have hkl := (sp_kwi_ok i h_i0 h_i).1
  rw [hkn] at hkl
  refine lv_aload_n hx hb dX13_is_0 rfl (lv_at hl 0 rfl) ?_
  refine hp_get (v := .int (m_hd)) hx hb hts hown hZ hc0 fl_X13_83 rfl dX13_is_1 ?_
  refine lv_iconst (v := 1) hx hb dX13_is_4 (by decide) ?_
  refine lv_icmp_ne (tgt := 28) hx hb dX13_is_5 (by decide) (fun c4 => ?_) (fun c4 => ?_)
  · have c4 : ¬ (m_hd).toInt = (1 : Int) := fun h9 => c4 (hq_eqi.mpr h9)
    refine lv_iconst (v := 0) hx hb dX13_is_28 (by decide) ?_
    refine lv_istore_n (lv' := [(2, .int (0)), (0, .ref (mo)), (1, .ref (cs (100 + i)))]) hx hb dX13_is_29 rfl hl (by decide) rfl (fun ls hl => ?_)
    refine lv_iconst (v := 0) hx hb dX13_is_30 (by decide) ?_
    refine lv_istore_n (lv' := [(3, .int (0)), (2, .int (0)), (0, .ref (mo)), (1, .ref (cs (100 + i)))]) hx hb dX13_is_31 rfl hl (by decide) rfl (fun ls hl => ?_)
    have hl5 : (0 : Int32).toInt = 0 := by decide
    have hl6 : (0 : Int32).toInt = 0 := by decide
    suffices lp32 : ∀ (k9 : Nat) (H9 : Heap) (locs9 : List Loc) (ls : Array Slot) (iz : Int32) (k : Int32), (1000 - k.toInt).toNat = k9 → hp_Z D cs B s V H9 n locs9 → hq_I cs G V → 0 ≤ k.toInt → k.toInt ≤ (hp_sl.getD i 0 : Nat) → 0 ≤ iz.toInt ∧ iz.toInt ≤ 1 → (hx_D (iz.toInt = 1) (m_hd.toInt = 1 ∧ m_bh.toInt - m_fr.toInt = (hp_sl.getD i 0 : Nat) ∧ ∀ x : Nat, (x : Int) < k.toInt → w.1 (sp_s w j + x) = sp_ch i x) (iz.toInt = 0 ∧ ¬ sp_k w j = (kn : Int))) → lv_has ls 4 [(3, .int (k)), (2, .int (iz)), (0, .ref (mo)), (1, .ref (cs (100 + i)))] → W p l e ({ frames := 5, cells := 0, slots := 0, locals := 106 }) s m ([.ref (mo), .ref (cs (100 + i))] : List Value).toArray below meth c H9 locs9 0 0 (MQ below (hp_QI D cs B (fun r V' n' => n = n' ∧ V = V' ∧ ((r.toInt = 1 ∧ sp_k w j = (kn : Int)) ∨ (r.toInt = 0 ∧ ¬ sp_k w j = (kn : Int))))) ([.ref (mo), .ref (cs (100 + i))] : List Value).toArray s 0 0 (hp_F B)) (F0 m 32 ls []) from lp32 _ _ _ ls (0) (0) rfl hZ hP (by omega) (by omega) (by omega) (hx_D.r (by decide) ⟨by decide, by have h9 := sp_h_1 (sp_k w j); omega⟩) (lv_sub hl [0, 1, 2, 3] rfl)
    intro k9
    induction k9 using Nat.strongRecOn with
    | _ k9 ih32 =>
      intro H9 locs9 ls iz k   hk32 hZ hP    hv7 hv8 hv9 his hl
      have hb_iz := hq_rng iz
      have hb_k := hq_rng k
      refine lv_iload_n hx hb dX13_is_32 rfl (lv_at hl 0 rfl) ?_
      refine lv_aload_n hx hb dX13_is_33 rfl (lv_at hl 3 rfl) ?_
      refine hp_calli (hp_runVS (As := []) (rest := [.int (k)]) hx hb hml hown hts (s_length l D cs B V n i h_i) hZ h_i rfl cv_X13_93 rfl rfl ⟨Nat.le_of_ble_eq_true rfl, Nat.le_of_ble_eq_true rfl⟩ rfl hl.1 rfl (Nat.le_of_ble_eq_true rfl) dX13_is_34 ⟨Nat.le_of_ble_eq_true rfl, Nat.le_of_ble_eq_true rfl⟩) hZ (fun r13 V10 n11 _ _ hw12 hZ => ?_)
      obtain ⟨rfl, rfl, hr14⟩ := hw12
      have b15 := hq_rng r13
      have b16 : r13.toInt = (hp_sl.getD i 0 : Nat) := by rw [hr14]; exact hs_ofn (by have h9 := (hs_all i h_i).1; omega)
      refine lv_icmp_ge (tgt := 75) hx hb dX13_is_37 (by decide) (fun c17 => ?_) (fun c17 => ?_)
      · have c17 : (r13).toInt ≤ (k).toInt := hq_lei.mp c17
        refine lv_iload_n hx hb dX13_is_75 rfl (lv_at hl 1 rfl) ?_
        exact hp_zret hx hb hr (hq_nzi (by omega) (by omega)) hlocks hZ ⟨rfl, rfl, (by rcases his with ⟨g1, g2, g3, g4⟩ | ⟨g1, g2, g3⟩; (· exact Or.inl ⟨g1, sp_is_yes h_i0 h_i hkn (by have h9 := sp_h_1 (sp_k w j); omega) (by have h9 := sp_h_1 (sp_k w j); have h8 := hA.2.2.2 (by omega); omega) (fun x hx9 => g4 x (by omega))⟩); (· exact Or.inr ⟨g2, g3⟩))⟩ dX13_is_76
      · have c17 : ¬ (r13).toInt ≤ (k).toInt := fun h9 => c17 (hq_lei.mpr h9)
        refine lv_iload_n hx hb dX13_is_40 rfl (lv_at hl 1 rfl) ?_
        refine lv_if_eq (tgt := 75) hx hb dX13_is_41 (by decide) (fun c18 => ?_) (fun c18 => ?_)
        · have c18 : (iz).toInt = (0 : Int) := hq_eqi.mp c18
          have hno := hx_D.neg his (by omega)
          refine lv_iload_n hx hb dX13_is_75 rfl (lv_at hl 1 rfl) ?_
          exact hp_zret hx hb hr (hq_nzi (by omega) (by omega)) hlocks hZ ⟨rfl, rfl, Or.inr ⟨by omega, hno.2⟩⟩ dX13_is_76
        · have c18 : ¬ (iz).toInt = (0 : Int) := fun h9 => c18 (hq_eqi.mpr h9)
          have hyes := hx_D.pos his (by rcases Classical.em (iz.toInt = 1) with h9 | h9; exact h9; exact absurd (hx_D.neg his h9).1 (by omega))
          obtain ⟨hy1, hy2, -⟩ := id hyes
          refine lv_aload_n hx hb dX13_is_44 rfl (lv_at hl 2 rfl) ?_
          refine hp_get (v := .ref (q + 20)) hx hb hts hown hZ hc0 fl_X13_73 rfl dX13_is_45 ?_
          refine lv_aload_n hx hb dX13_is_48 rfl (lv_at hl 2 rfl) ?_
          refine hp_get (v := .int (m_fr)) hx hb hts hown hZ hc0 fl_X13_60 rfl dX13_is_49 ?_
          refine lv_iload_n hx hb dX13_is_52 rfl (lv_at hl 0 rfl) ?_
          refine lv_iadd hx hb dX13_is_53 ?_
          refine lv_topi (fun y19 ey20 => ?_)
          obtain ⟨k21, hk22, b23, b24⟩ := hq_add (m_fr) (k)
          rw [← ey20] at hk22 b23 b24
          have hk22 : (y19).toInt = (m_fr).toInt + (k).toInt + k21 * 4294967296 := hk22
          obtain rfl : k21 = 0 := by omega
          have h17a := sp_h_1 (sp_k w j)
          have hbea := hA.2.2.2 (by omega)
          have htka := sp_tok (w := w) (j := j) hA.1
          have htia := sp_tok_in (w := w) (j := j) hA.1 (by omega)
          refine hp_bald hx hb hZ htg (hq_in (by omega) (by omega)) dX13_is_54 ?_
          refine lv_topi (fun y25 ey26 => ?_)
          have b27 := hq_rng y25
          have h17 := sp_h_1 (sp_k w j)
          have hbe := hA.2.2.2 (by omega)
          have htk := sp_tok (w := w) (j := j) hA.1
          have hti := sp_tok_in (w := w) (j := j) hA.1 (by omega)
          have hgw9 := hx_gw hz3 (i := y19) (by omega) (by omega)
          rw [← ey26] at hgw9
          refine lv_aload_n hx hb dX13_is_55 rfl (lv_at hl 3 rfl) ?_
          refine lv_iload_n hx hb dX13_is_56 rfl (lv_at hl 0 rfl) ?_
          refine hp_calli (hp_runVS (As := [.int (k)]) (rest := [.int (y25)]) hx hb hml hown hts (s_charAt l D cs B V n i h_i (k) (by omega) (by omega)) hZ h_i rfl cv_X13_99 rfl rfl ⟨Nat.le_of_ble_eq_true rfl, Nat.le_of_ble_eq_true rfl⟩ rfl hl.1 rfl (Nat.le_of_ble_eq_true rfl) dX13_is_57 ⟨Nat.le_of_ble_eq_true rfl, Nat.le_of_ble_eq_true rfl⟩) hZ (fun r31 V28 n29 _ _ hw30 hZ => ?_)
          obtain ⟨rfl, rfl, hr32⟩ := hw30
          have b33 := hq_rng r31
          refine lv_icmp_ne (tgt := 67) hx hb dX13_is_60 (by decide) (fun c34 => ?_) (fun c34 => ?_)
          · have c34 : ¬ (y25).toInt = (r31).toInt := fun h9 => c34 (hq_eqi.mpr h9)
            refine lv_iconst (v := 0) hx hb dX13_is_67 (by decide) ?_
            refine lv_istore_n (lv' := [(2, .int (0)), (3, .int (k)), (0, .ref (mo)), (1, .ref (cs (100 + i)))]) hx hb dX13_is_68 rfl hl (by decide) rfl (fun ls hl => ?_)
            obtain ⟨y35, ey36⟩ : ∃ y : Int32, y = k + (1) := ⟨_, rfl⟩
            obtain ⟨k37, hk38, b39, b40⟩ := hq_add (k) (1)
            rw [← ey36] at hk38 b39 b40
            have hk38 : (y35).toInt = (k).toInt + (1) + k37 * 4294967296 := hk38
            obtain rfl : k37 = 0 := by omega
            refine lv_iinc (v := y35) (lv' := [(3, .int (y35)), (2, .int (0)), (0, .ref (mo)), (1, .ref (cs (100 + i)))]) hx hb dX13_is_69 hl (k := 1) rfl (by rw [ey36]; rfl) (by decide) rfl (fun ls hl => ?_)
            refine lv_goto (tgt := 32) hx hb dX13_is_72 (by decide) ?_
            have hl41 : (0 : Int32).toInt = 0 := by decide
            exact ih32 _ (by omega) _ _ ls (0) (y35) rfl hZ hP (by omega) (by omega) (by omega) (hx_D.r (by decide) ⟨by decide, sp_is_no h_i0 h_i hkn (x := k.toInt.toNat) (by omega) (by rw [(show w.1 (sp_s w j + (k.toInt.toNat : Int)) = (y25).toInt by rw [hgw9]; exact congrArg w.1 (by omega)), (show sp_ch i k.toInt.toNat = (r31).toInt by rw [hr32]; rfl)]; omega)⟩) (lv_sub hl [0, 1, 2, 3] rfl)
          · have c34 : (y25).toInt = (r31).toInt := hq_eqi.mp c34
            refine lv_iconst (v := 1) hx hb dX13_is_63 (by decide) ?_
            refine lv_goto (tgt := 68) hx hb dX13_is_64 (by decide) ?_
            refine lv_istore_n (lv' := [(2, .int (1)), (3, .int (k)), (0, .ref (mo)), (1, .ref (cs (100 + i)))]) hx hb dX13_is_68 rfl hl (by decide) rfl (fun ls hl => ?_)
            obtain ⟨y42, ey43⟩ : ∃ y : Int32, y = k + (1) := ⟨_, rfl⟩
            obtain ⟨k44, hk45, b46, b47⟩ := hq_add (k) (1)
            rw [← ey43] at hk45 b46 b47
            have hk45 : (y42).toInt = (k).toInt + (1) + k44 * 4294967296 := hk45
            obtain rfl : k44 = 0 := by omega
            refine lv_iinc (v := y42) (lv' := [(3, .int (y42)), (2, .int (1)), (0, .ref (mo)), (1, .ref (cs (100 + i)))]) hx hb dX13_is_69 hl (k := 1) rfl (by rw [ey43]; rfl) (by decide) rfl (fun ls hl => ?_)
            refine lv_goto (tgt := 32) hx hb dX13_is_72 (by decide) ?_
            have hl48 : (1 : Int32).toInt = 1 := by decide
            exact ih32 _ (by omega) _ _ ls (1) (y42) rfl hZ hP (by omega) (by omega) (by omega) (hx_D.l (by decide) ⟨by omega, by omega, fun x hx9 => by by_cases h9 : (x : Int) < k.toInt; (· exact hyes.2.2 x h9); (· rw [show x = k.toInt.toNat by omega, (show w.1 (sp_s w j + (k.toInt.toNat : Int)) = (y25).toInt by rw [hgw9]; exact congrArg w.1 (by omega)), (show sp_ch i k.toInt.toNat = (r31).toInt by rw [hr32]; rfl)]; omega)⟩) (lv_sub hl [0, 1, 2, 3] rfl)
  · have c4 : (m_hd).toInt = (1 : Int) := hq_eqi.mp c4
    refine lv_aload_n hx hb dX13_is_8 rfl (lv_at hl 0 rfl) ?_
    refine hp_get (v := .int (m_bh)) hx hb hts hown hZ hc0 fl_X13_76 rfl dX13_is_9 ?_
    refine lv_aload_n hx hb dX13_is_12 rfl (lv_at hl 0 rfl) ?_
    refine hp_get (v := .int (m_fr)) hx hb hts hown hZ hc0 fl_X13_60 rfl dX13_is_13 ?_
    have h17c := sp_h_1 (sp_k w j)
    have hbec := hA.2.2.2 (by omega)
    have htkc := sp_tok (w := w) (j := j) hA.1
    have htic := sp_tok_in (w := w) (j := j) hA.1 (by omega)
    refine lv_isub hx hb dX13_is_16 ?_
    refine lv_topi (fun y49 ey50 => ?_)
    obtain ⟨k51, hk52, b53, b54⟩ := hq_sub (m_bh) (m_fr)
    rw [← ey50] at hk52 b53 b54
    have hk52 : (y49).toInt = (m_bh).toInt - (m_fr).toInt + k51 * 4294967296 := hk52
    obtain rfl : k51 = 0 := by omega
    refine lv_aload_n hx hb dX13_is_17 rfl (lv_at hl 1 rfl) ?_
    refine hp_calli (hp_runVS (As := []) (rest := [.int (y49)]) hx hb hml hown hts (s_length l D cs B V n i h_i) hZ h_i rfl cv_X13_93 rfl rfl ⟨Nat.le_of_ble_eq_true rfl, Nat.le_of_ble_eq_true rfl⟩ rfl hl.1 rfl (Nat.le_of_ble_eq_true rfl) dX13_is_18 ⟨Nat.le_of_ble_eq_true rfl, Nat.le_of_ble_eq_true rfl⟩) hZ (fun r58 V55 n56 _ _ hw57 hZ => ?_)
    obtain ⟨rfl, rfl, hr59⟩ := hw57
    have b60 := hq_rng r58
    have b61 : r58.toInt = (hp_sl.getD i 0 : Nat) := by rw [hr59]; exact hs_ofn (by have h9 := (hs_all i h_i).1; omega)
    refine lv_icmp_ne (tgt := 28) hx hb dX13_is_21 (by decide) (fun c62 => ?_) (fun c62 => ?_)
    · have c62 : ¬ (y49).toInt = (r58).toInt := fun h9 => c62 (hq_eqi.mpr h9)
      refine lv_iconst (v := 0) hx hb dX13_is_28 (by decide) ?_
      refine lv_istore_n (lv' := [(2, .int (0)), (0, .ref (mo)), (1, .ref (cs (100 + i)))]) hx hb dX13_is_29 rfl hl (by decide) rfl (fun ls hl => ?_)
      refine lv_iconst (v := 0) hx hb dX13_is_30 (by decide) ?_
      refine lv_istore_n (lv' := [(3, .int (0)), (2, .int (0)), (0, .ref (mo)), (1, .ref (cs (100 + i)))]) hx hb dX13_is_31 rfl hl (by decide) rfl (fun ls hl => ?_)
      have hl63 : (0 : Int32).toInt = 0 := by decide
      have hl64 : (0 : Int32).toInt = 0 := by decide
      suffices lp32 : ∀ (k9 : Nat) (H9 : Heap) (locs9 : List Loc) (ls : Array Slot) (iz : Int32) (k : Int32), (1000 - k.toInt).toNat = k9 → hp_Z D cs B s V H9 n locs9 → hq_I cs G V → 0 ≤ k.toInt → k.toInt ≤ (hp_sl.getD i 0 : Nat) → 0 ≤ iz.toInt ∧ iz.toInt ≤ 1 → (hx_D (iz.toInt = 1) (m_hd.toInt = 1 ∧ m_bh.toInt - m_fr.toInt = (hp_sl.getD i 0 : Nat) ∧ ∀ x : Nat, (x : Int) < k.toInt → w.1 (sp_s w j + x) = sp_ch i x) (iz.toInt = 0 ∧ ¬ sp_k w j = (kn : Int))) → lv_has ls 4 [(3, .int (k)), (2, .int (iz)), (0, .ref (mo)), (1, .ref (cs (100 + i)))] → W p l e ({ frames := 5, cells := 0, slots := 0, locals := 106 }) s m ([.ref (mo), .ref (cs (100 + i))] : List Value).toArray below meth c H9 locs9 0 0 (MQ below (hp_QI D cs B (fun r V' n' => n = n' ∧ V = V' ∧ ((r.toInt = 1 ∧ sp_k w j = (kn : Int)) ∨ (r.toInt = 0 ∧ ¬ sp_k w j = (kn : Int))))) ([.ref (mo), .ref (cs (100 + i))] : List Value).toArray s 0 0 (hp_F B)) (F0 m 32 ls []) from lp32 _ _ _ ls (0) (0) rfl hZ hP (by omega) (by omega) (by omega) (hx_D.r (by decide) ⟨by decide, sp_is_len h_i0 h_i hkn (by have h9 := sp_h_1 (sp_k w j); have h8 := hA.2.2.2 (by omega); omega)⟩) (lv_sub hl [0, 1, 2, 3] rfl)
      intro k9
      induction k9 using Nat.strongRecOn with
      | _ k9 ih32 =>
        intro H9 locs9 ls iz k   hk32 hZ hP    hv65 hv66 hv67 his hl
        have hb_iz := hq_rng iz
        have hb_k := hq_rng k
        refine lv_iload_n hx hb dX13_is_32 rfl (lv_at hl 0 rfl) ?_
        refine lv_aload_n hx hb dX13_is_33 rfl (lv_at hl 3 rfl) ?_
        refine hp_calli (hp_runVS (As := []) (rest := [.int (k)]) hx hb hml hown hts (s_length l D cs B V n i h_i) hZ h_i rfl cv_X13_93 rfl rfl ⟨Nat.le_of_ble_eq_true rfl, Nat.le_of_ble_eq_true rfl⟩ rfl hl.1 rfl (Nat.le_of_ble_eq_true rfl) dX13_is_34 ⟨Nat.le_of_ble_eq_true rfl, Nat.le_of_ble_eq_true rfl⟩) hZ (fun r71 V68 n69 _ _ hw70 hZ => ?_)
        obtain ⟨rfl, rfl, hr72⟩ := hw70
        have b73 := hq_rng r71
        have b74 : r71.toInt = (hp_sl.getD i 0 : Nat) := by rw [hr72]; exact hs_ofn (by have h9 := (hs_all i h_i).1; omega)
        refine lv_icmp_ge (tgt := 75) hx hb dX13_is_37 (by decide) (fun c75 => ?_) (fun c75 => ?_)
        · have c75 : (r71).toInt ≤ (k).toInt := hq_lei.mp c75
          refine lv_iload_n hx hb dX13_is_75 rfl (lv_at hl 1 rfl) ?_
          exact hp_zret hx hb hr (hq_nzi (by omega) (by omega)) hlocks hZ ⟨rfl, rfl, (by rcases his with ⟨g1, g2, g3, g4⟩ | ⟨g1, g2, g3⟩; (· exact Or.inl ⟨g1, sp_is_yes h_i0 h_i hkn (by have h9 := sp_h_1 (sp_k w j); omega) (by have h9 := sp_h_1 (sp_k w j); have h8 := hA.2.2.2 (by omega); omega) (fun x hx9 => g4 x (by omega))⟩); (· exact Or.inr ⟨g2, g3⟩))⟩ dX13_is_76
        · have c75 : ¬ (r71).toInt ≤ (k).toInt := fun h9 => c75 (hq_lei.mpr h9)
          refine lv_iload_n hx hb dX13_is_40 rfl (lv_at hl 1 rfl) ?_
          refine lv_if_eq (tgt := 75) hx hb dX13_is_41 (by decide) (fun c76 => ?_) (fun c76 => ?_)
          · have c76 : (iz).toInt = (0 : Int) := hq_eqi.mp c76
            have hno := hx_D.neg his (by omega)
            refine lv_iload_n hx hb dX13_is_75 rfl (lv_at hl 1 rfl) ?_
            exact hp_zret hx hb hr (hq_nzi (by omega) (by omega)) hlocks hZ ⟨rfl, rfl, Or.inr ⟨by omega, hno.2⟩⟩ dX13_is_76
          · have c76 : ¬ (iz).toInt = (0 : Int) := fun h9 => c76 (hq_eqi.mpr h9)
            have hyes := hx_D.pos his (by rcases Classical.em (iz.toInt = 1) with h9 | h9; exact h9; exact absurd (hx_D.neg his h9).1 (by omega))
            obtain ⟨hy1, hy2, -⟩ := id hyes
            refine lv_aload_n hx hb dX13_is_44 rfl (lv_at hl 2 rfl) ?_
            refine hp_get (v := .ref (q + 20)) hx hb hts hown hZ hc0 fl_X13_73 rfl dX13_is_45 ?_
            refine lv_aload_n hx hb dX13_is_48 rfl (lv_at hl 2 rfl) ?_
            refine hp_get (v := .int (m_fr)) hx hb hts hown hZ hc0 fl_X13_60 rfl dX13_is_49 ?_
            refine lv_iload_n hx hb dX13_is_52 rfl (lv_at hl 0 rfl) ?_
            refine lv_iadd hx hb dX13_is_53 ?_
            refine lv_topi (fun y77 ey78 => ?_)
            obtain ⟨k79, hk80, b81, b82⟩ := hq_add (m_fr) (k)
            rw [← ey78] at hk80 b81 b82
            have hk80 : (y77).toInt = (m_fr).toInt + (k).toInt + k79 * 4294967296 := hk80
            obtain rfl : k79 = 0 := by omega
            have h17a := sp_h_1 (sp_k w j)
            have hbea := hA.2.2.2 (by omega)
            have htka := sp_tok (w := w) (j := j) hA.1
            have htia := sp_tok_in (w := w) (j := j) hA.1 (by omega)
            refine hp_bald hx hb hZ htg (hq_in (by omega) (by omega)) dX13_is_54 ?_
            refine lv_topi (fun y83 ey84 => ?_)
            have b85 := hq_rng y83
            have h17 := sp_h_1 (sp_k w j)
            have hbe := hA.2.2.2 (by omega)
            have htk := sp_tok (w := w) (j := j) hA.1
            have hti := sp_tok_in (w := w) (j := j) hA.1 (by omega)
            have hgw9 := hx_gw hz3 (i := y77) (by omega) (by omega)
            rw [← ey84] at hgw9
            refine lv_aload_n hx hb dX13_is_55 rfl (lv_at hl 3 rfl) ?_
            refine lv_iload_n hx hb dX13_is_56 rfl (lv_at hl 0 rfl) ?_
            refine hp_calli (hp_runVS (As := [.int (k)]) (rest := [.int (y83)]) hx hb hml hown hts (s_charAt l D cs B V n i h_i (k) (by omega) (by omega)) hZ h_i rfl cv_X13_99 rfl rfl ⟨Nat.le_of_ble_eq_true rfl, Nat.le_of_ble_eq_true rfl⟩ rfl hl.1 rfl (Nat.le_of_ble_eq_true rfl) dX13_is_57 ⟨Nat.le_of_ble_eq_true rfl, Nat.le_of_ble_eq_true rfl⟩) hZ (fun r89 V86 n87 _ _ hw88 hZ => ?_)
            obtain ⟨rfl, rfl, hr90⟩ := hw88
            have b91 := hq_rng r89
            refine lv_icmp_ne (tgt := 67) hx hb dX13_is_60 (by decide) (fun c92 => ?_) (fun c92 => ?_)
            · have c92 : ¬ (y83).toInt = (r89).toInt := fun h9 => c92 (hq_eqi.mpr h9)
              refine lv_iconst (v := 0) hx hb dX13_is_67 (by decide) ?_
              refine lv_istore_n (lv' := [(2, .int (0)), (3, .int (k)), (0, .ref (mo)), (1, .ref (cs (100 + i)))]) hx hb dX13_is_68 rfl hl (by decide) rfl (fun ls hl => ?_)
              obtain ⟨y93, ey94⟩ : ∃ y : Int32, y = k + (1) := ⟨_, rfl⟩
              obtain ⟨k95, hk96, b97, b98⟩ := hq_add (k) (1)
              rw [← ey94] at hk96 b97 b98
              have hk96 : (y93).toInt = (k).toInt + (1) + k95 * 4294967296 := hk96
              obtain rfl : k95 = 0 := by omega
              refine lv_iinc (v := y93) (lv' := [(3, .int (y93)), (2, .int (0)), (0, .ref (mo)), (1, .ref (cs (100 + i)))]) hx hb dX13_is_69 hl (k := 1) rfl (by rw [ey94]; rfl) (by decide) rfl (fun ls hl => ?_)
              refine lv_goto (tgt := 32) hx hb dX13_is_72 (by decide) ?_
              have hl99 : (0 : Int32).toInt = 0 := by decide
              exact ih32 _ (by omega) _ _ ls (0) (y93) rfl hZ hP (by omega) (by omega) (by omega) (hx_D.r (by decide) ⟨by decide, sp_is_no h_i0 h_i hkn (x := k.toInt.toNat) (by omega) (by rw [(show w.1 (sp_s w j + (k.toInt.toNat : Int)) = (y83).toInt by rw [hgw9]; exact congrArg w.1 (by omega)), (show sp_ch i k.toInt.toNat = (r89).toInt by rw [hr90]; rfl)]; omega)⟩) (lv_sub hl [0, 1, 2, 3] rfl)
            · have c92 : (y83).toInt = (r89).toInt := hq_eqi.mp c92
              refine lv_iconst (v := 1) hx hb dX13_is_63 (by decide) ?_
              refine lv_goto (tgt := 68) hx hb dX13_is_64 (by decide) ?_
              refine lv_istore_n (lv' := [(2, .int (1)), (3, .int (k)), (0, .ref (mo)), (1, .ref (cs (100 + i)))]) hx hb dX13_is_68 rfl hl (by decide) rfl (fun ls hl => ?_)
              obtain ⟨y100, ey101⟩ : ∃ y : Int32, y = k + (1) := ⟨_, rfl⟩
              obtain ⟨k102, hk103, b104, b105⟩ := hq_add (k) (1)
              rw [← ey101] at hk103 b104 b105
              have hk103 : (y100).toInt = (k).toInt + (1) + k102 * 4294967296 := hk103
              obtain rfl : k102 = 0 := by omega
              refine lv_iinc (v := y100) (lv' := [(3, .int (y100)), (2, .int (1)), (0, .ref (mo)), (1, .ref (cs (100 + i)))]) hx hb dX13_is_69 hl (k := 1) rfl (by rw [ey101]; rfl) (by decide) rfl (fun ls hl => ?_)
              refine lv_goto (tgt := 32) hx hb dX13_is_72 (by decide) ?_
              have hl106 : (1 : Int32).toInt = 1 := by decide
              exact ih32 _ (by omega) _ _ ls (1) (y100) rfl hZ hP (by omega) (by omega) (by omega) (hx_D.l (by decide) ⟨by omega, by omega, fun x hx9 => by by_cases h9 : (x : Int) < k.toInt; (· exact hyes.2.2 x h9); (· rw [show x = k.toInt.toNat by omega, (show w.1 (sp_s w j + (k.toInt.toNat : Int)) = (y83).toInt by rw [hgw9]; exact congrArg w.1 (by omega)), (show sp_ch i k.toInt.toNat = (r89).toInt by rw [hr90]; rfl)]; omega)⟩) (lv_sub hl [0, 1, 2, 3] rfl)
    · have c62 : (y49).toInt = (r58).toInt := hq_eqi.mp c62
      refine lv_iconst (v := 1) hx hb dX13_is_24 (by decide) ?_
      refine lv_goto (tgt := 29) hx hb dX13_is_25 (by decide) ?_
      refine lv_istore_n (lv' := [(2, .int (1)), (0, .ref (mo)), (1, .ref (cs (100 + i)))]) hx hb dX13_is_29 rfl hl (by decide) rfl (fun ls hl => ?_)
      refine lv_iconst (v := 0) hx hb dX13_is_30 (by decide) ?_
      refine lv_istore_n (lv' := [(3, .int (0)), (2, .int (1)), (0, .ref (mo)), (1, .ref (cs (100 + i)))]) hx hb dX13_is_31 rfl hl (by decide) rfl (fun ls hl => ?_)
      have hl107 : (1 : Int32).toInt = 1 := by decide
      have hl108 : (0 : Int32).toInt = 0 := by decide
      suffices lp32 : ∀ (k9 : Nat) (H9 : Heap) (locs9 : List Loc) (ls : Array Slot) (iz : Int32) (k : Int32), (1000 - k.toInt).toNat = k9 → hp_Z D cs B s V H9 n locs9 → hq_I cs G V → 0 ≤ k.toInt → k.toInt ≤ (hp_sl.getD i 0 : Nat) → 0 ≤ iz.toInt ∧ iz.toInt ≤ 1 → (hx_D (iz.toInt = 1) (m_hd.toInt = 1 ∧ m_bh.toInt - m_fr.toInt = (hp_sl.getD i 0 : Nat) ∧ ∀ x : Nat, (x : Int) < k.toInt → w.1 (sp_s w j + x) = sp_ch i x) (iz.toInt = 0 ∧ ¬ sp_k w j = (kn : Int))) → lv_has ls 4 [(3, .int (k)), (2, .int (iz)), (0, .ref (mo)), (1, .ref (cs (100 + i)))] → W p l e ({ frames := 5, cells := 0, slots := 0, locals := 106 }) s m ([.ref (mo), .ref (cs (100 + i))] : List Value).toArray below meth c H9 locs9 0 0 (MQ below (hp_QI D cs B (fun r V' n' => n = n' ∧ V = V' ∧ ((r.toInt = 1 ∧ sp_k w j = (kn : Int)) ∨ (r.toInt = 0 ∧ ¬ sp_k w j = (kn : Int))))) ([.ref (mo), .ref (cs (100 + i))] : List Value).toArray s 0 0 (hp_F B)) (F0 m 32 ls []) from lp32 _ _ _ ls (1) (0) rfl hZ hP (by omega) (by omega) (by omega) (hx_D.l (by decide) ⟨by omega, by omega, fun x hx9 => by omega⟩) (lv_sub hl [0, 1, 2, 3] rfl)
      intro k9
      induction k9 using Nat.strongRecOn with
      | _ k9 ih32 =>
        intro H9 locs9 ls iz k   hk32 hZ hP    hv109 hv110 hv111 his hl
        have hb_iz := hq_rng iz
        have hb_k := hq_rng k
        refine lv_iload_n hx hb dX13_is_32 rfl (lv_at hl 0 rfl) ?_
        refine lv_aload_n hx hb dX13_is_33 rfl (lv_at hl 3 rfl) ?_
        refine hp_calli (hp_runVS (As := []) (rest := [.int (k)]) hx hb hml hown hts (s_length l D cs B V n i h_i) hZ h_i rfl cv_X13_93 rfl rfl ⟨Nat.le_of_ble_eq_true rfl, Nat.le_of_ble_eq_true rfl⟩ rfl hl.1 rfl (Nat.le_of_ble_eq_true rfl) dX13_is_34 ⟨Nat.le_of_ble_eq_true rfl, Nat.le_of_ble_eq_true rfl⟩) hZ (fun r115 V112 n113 _ _ hw114 hZ => ?_)
        obtain ⟨rfl, rfl, hr116⟩ := hw114
        have b117 := hq_rng r115
        have b118 : r115.toInt = (hp_sl.getD i 0 : Nat) := by rw [hr116]; exact hs_ofn (by have h9 := (hs_all i h_i).1; omega)
        refine lv_icmp_ge (tgt := 75) hx hb dX13_is_37 (by decide) (fun c119 => ?_) (fun c119 => ?_)
        · have c119 : (r115).toInt ≤ (k).toInt := hq_lei.mp c119
          refine lv_iload_n hx hb dX13_is_75 rfl (lv_at hl 1 rfl) ?_
          exact hp_zret hx hb hr (hq_nzi (by omega) (by omega)) hlocks hZ ⟨rfl, rfl, (by rcases his with ⟨g1, g2, g3, g4⟩ | ⟨g1, g2, g3⟩; (· exact Or.inl ⟨g1, sp_is_yes h_i0 h_i hkn (by have h9 := sp_h_1 (sp_k w j); omega) (by have h9 := sp_h_1 (sp_k w j); have h8 := hA.2.2.2 (by omega); omega) (fun x hx9 => g4 x (by omega))⟩); (· exact Or.inr ⟨g2, g3⟩))⟩ dX13_is_76
        · have c119 : ¬ (r115).toInt ≤ (k).toInt := fun h9 => c119 (hq_lei.mpr h9)
          refine lv_iload_n hx hb dX13_is_40 rfl (lv_at hl 1 rfl) ?_
          refine lv_if_eq (tgt := 75) hx hb dX13_is_41 (by decide) (fun c120 => ?_) (fun c120 => ?_)
          · have c120 : (iz).toInt = (0 : Int) := hq_eqi.mp c120
            have hno := hx_D.neg his (by omega)
            refine lv_iload_n hx hb dX13_is_75 rfl (lv_at hl 1 rfl) ?_
            exact hp_zret hx hb hr (hq_nzi (by omega) (by omega)) hlocks hZ ⟨rfl, rfl, Or.inr ⟨by omega, hno.2⟩⟩ dX13_is_76
          · have c120 : ¬ (iz).toInt = (0 : Int) := fun h9 => c120 (hq_eqi.mpr h9)
            have hyes := hx_D.pos his (by rcases Classical.em (iz.toInt = 1) with h9 | h9; exact h9; exact absurd (hx_D.neg his h9).1 (by omega))
            obtain ⟨hy1, hy2, -⟩ := id hyes
            refine lv_aload_n hx hb dX13_is_44 rfl (lv_at hl 2 rfl) ?_
            refine hp_get (v := .ref (q + 20)) hx hb hts hown hZ hc0 fl_X13_73 rfl dX13_is_45 ?_
            refine lv_aload_n hx hb dX13_is_48 rfl (lv_at hl 2 rfl) ?_
            refine hp_get (v := .int (m_fr)) hx hb hts hown hZ hc0 fl_X13_60 rfl dX13_is_49 ?_
            refine lv_iload_n hx hb dX13_is_52 rfl (lv_at hl 0 rfl) ?_
            refine lv_iadd hx hb dX13_is_53 ?_
            refine lv_topi (fun y121 ey122 => ?_)
            obtain ⟨k123, hk124, b125, b126⟩ := hq_add (m_fr) (k)
            rw [← ey122] at hk124 b125 b126
            have hk124 : (y121).toInt = (m_fr).toInt + (k).toInt + k123 * 4294967296 := hk124
            obtain rfl : k123 = 0 := by omega
            have h17a := sp_h_1 (sp_k w j)
            have hbea := hA.2.2.2 (by omega)
            have htka := sp_tok (w := w) (j := j) hA.1
            have htia := sp_tok_in (w := w) (j := j) hA.1 (by omega)
            refine hp_bald hx hb hZ htg (hq_in (by omega) (by omega)) dX13_is_54 ?_
            refine lv_topi (fun y127 ey128 => ?_)
            have b129 := hq_rng y127
            have h17 := sp_h_1 (sp_k w j)
            have hbe := hA.2.2.2 (by omega)
            have htk := sp_tok (w := w) (j := j) hA.1
            have hti := sp_tok_in (w := w) (j := j) hA.1 (by omega)
            have hgw9 := hx_gw hz3 (i := y121) (by omega) (by omega)
            rw [← ey128] at hgw9
            refine lv_aload_n hx hb dX13_is_55 rfl (lv_at hl 3 rfl) ?_
            refine lv_iload_n hx hb dX13_is_56 rfl (lv_at hl 0 rfl) ?_
            refine hp_calli (hp_runVS (As := [.int (k)]) (rest := [.int (y127)]) hx hb hml hown hts (s_charAt l D cs B V n i h_i (k) (by omega) (by omega)) hZ h_i rfl cv_X13_99 rfl rfl ⟨Nat.le_of_ble_eq_true rfl, Nat.le_of_ble_eq_true rfl⟩ rfl hl.1 rfl (Nat.le_of_ble_eq_true rfl) dX13_is_57 ⟨Nat.le_of_ble_eq_true rfl, Nat.le_of_ble_eq_true rfl⟩) hZ (fun r133 V130 n131 _ _ hw132 hZ => ?_)
            obtain ⟨rfl, rfl, hr134⟩ := hw132
            have b135 := hq_rng r133
            refine lv_icmp_ne (tgt := 67) hx hb dX13_is_60 (by decide) (fun c136 => ?_) (fun c136 => ?_)
            · have c136 : ¬ (y127).toInt = (r133).toInt := fun h9 => c136 (hq_eqi.mpr h9)
              refine lv_iconst (v := 0) hx hb dX13_is_67 (by decide) ?_
              refine lv_istore_n (lv' := [(2, .int (0)), (3, .int (k)), (0, .ref (mo)), (1, .ref (cs (100 + i)))]) hx hb dX13_is_68 rfl hl (by decide) rfl (fun ls hl => ?_)
              obtain ⟨y137, ey138⟩ : ∃ y : Int32, y = k + (1) := ⟨_, rfl⟩
              obtain ⟨k139, hk140, b141, b142⟩ := hq_add (k) (1)
              rw [← ey138] at hk140 b141 b142
              have hk140 : (y137).toInt = (k).toInt + (1) + k139 * 4294967296 := hk140
              obtain rfl : k139 = 0 := by omega
              refine lv_iinc (v := y137) (lv' := [(3, .int (y137)), (2, .int (0)), (0, .ref (mo)), (1, .ref (cs (100 + i)))]) hx hb dX13_is_69 hl (k := 1) rfl (by rw [ey138]; rfl) (by decide) rfl (fun ls hl => ?_)
              refine lv_goto (tgt := 32) hx hb dX13_is_72 (by decide) ?_
              have hl143 : (0 : Int32).toInt = 0 := by decide
              exact ih32 _ (by omega) _ _ ls (0) (y137) rfl hZ hP (by omega) (by omega) (by omega) (hx_D.r (by decide) ⟨by decide, sp_is_no h_i0 h_i hkn (x := k.toInt.toNat) (by omega) (by rw [(show w.1 (sp_s w j + (k.toInt.toNat : Int)) = (y127).toInt by rw [hgw9]; exact congrArg w.1 (by omega)), (show sp_ch i k.toInt.toNat = (r133).toInt by rw [hr134]; rfl)]; omega)⟩) (lv_sub hl [0, 1, 2, 3] rfl)
            · have c136 : (y127).toInt = (r133).toInt := hq_eqi.mp c136
              refine lv_iconst (v := 1) hx hb dX13_is_63 (by decide) ?_
              refine lv_goto (tgt := 68) hx hb dX13_is_64 (by decide) ?_
              refine lv_istore_n (lv' := [(2, .int (1)), (3, .int (k)), (0, .ref (mo)), (1, .ref (cs (100 + i)))]) hx hb dX13_is_68 rfl hl (by decide) rfl (fun ls hl => ?_)
              obtain ⟨y144, ey145⟩ : ∃ y : Int32, y = k + (1) := ⟨_, rfl⟩
              obtain ⟨k146, hk147, b148, b149⟩ := hq_add (k) (1)
              rw [← ey145] at hk147 b148 b149
              have hk147 : (y144).toInt = (k).toInt + (1) + k146 * 4294967296 := hk147
              obtain rfl : k146 = 0 := by omega
              refine lv_iinc (v := y144) (lv' := [(3, .int (y144)), (2, .int (1)), (0, .ref (mo)), (1, .ref (cs (100 + i)))]) hx hb dX13_is_69 hl (k := 1) rfl (by rw [ey145]; rfl) (by decide) rfl (fun ls hl => ?_)
              refine lv_goto (tgt := 32) hx hb dX13_is_72 (by decide) ?_
              have hl150 : (1 : Int32).toInt = 1 := by decide
              exact ih32 _ (by omega) _ _ ls (1) (y144) rfl hZ hP (by omega) (by omega) (by omega) (hx_D.l (by decide) ⟨by omega, by omega, fun x hx9 => by by_cases h9 : (x : Int) < k.toInt; (· exact hyes.2.2 x h9); (· rw [show x = k.toInt.toNat by omega, (show w.1 (sp_s w j + (k.toInt.toNat : Int)) = (y127).toInt by rw [hgw9]; exact congrArg w.1 (by omega)), (show sp_ch i k.toInt.toNat = (r133).toInt by rw [hr134]; rfl)]; omega)⟩) (lv_sub hl [0, 1, 2, 3] rfl)

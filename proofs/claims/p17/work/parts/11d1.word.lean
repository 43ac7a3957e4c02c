set_option maxHeartbeats 4000000 in
set_option maxRecDepth 100000 in
theorem y_standsAt (l : Launch) (D : va_G) (cs : Nat → ClassId) (B : Nat) (G : hq_G) (V : hp_V) (n : Nat) (hI : hq_I cs G V) (q : Nat) (mo : Nat) (rh : hm_Rh) (m_tp : Int32) (m_sz : Int32) (m_fr : Int32) (m_bh : Int32) (m_hd : Int32) (m_ft : Int32) (m_fa : Int32) (m_le : Int32) (m_fo : Int32) (m_as : Int32) (m_fd : Int32) (m_bc : Int32) (m_bg : Int32) (m_bs : Int32) (m_be : Int32) (m_b0 : Int32) (m_b1 : Int32) (m_cm : Int32) (m_hc : Int32) (k : Int32) (a9 : Int32) (wf : Nat → Int32) (u : List Int) (F : List Int) (hc0 : V (mo) = some (.inr (13, hm_o q (m_tp) (m_sz) (m_fr) (m_bh) (m_hd) (m_ft) (m_fa) (m_le) (m_fo) (m_as) (m_fd) (m_bc) (m_bg) (m_bs) (m_be) (m_b0) (m_b1) (m_cm) (m_hc)))) (hc1 : V (q + 21) = some (.inl (cs 0, 276, .inl (wf)))) (hp0 : hm_AR cs V q rh) (hR : hq_RT G q) (hmo : G mo = some (24, 0, 0, 0)) (hu : sp_rp m_le wf u) (hul : u.length ≤ 276) (hLT : hm_FT rh 14 5 (k).toNatClampNeg F) (ha : a9.toInt ≤ 1000) (hn : 0 < F.length) (hk : 0 ≤ k.toInt ∧ k.toInt < 60) : hp_M l yX13_standsAt cX13_standsAt 4 (some .boolean) ({ frames := 1, cells := 0, slots := 0, locals := 21 }) D cs B V n [.ref (mo), .int (k), .int (a9)] (hp_QI D cs B (fun r V' n' => n = n' ∧ V = V' ∧ ((r.toInt = 1 ∧ 0 ≤ a9.toInt ∧ sp_pf F (u.drop a9.toInt.toNat) = true) ∨ (r.toInt = 0 ∧ ¬ (0 ≤ a9.toInt ∧ sp_pf F (u.drop a9.toInt.toNat) = true))))) 0 0 := by
  refine hp_walk (R0 := RX13) (by decide) rfl ?_ (Nat.le_of_ble_eq_true rfl)
  intro p e s m below meth c ls hx hb hr hts hown hlocks hin hml hZ hl
  have hP : hq_I cs G V := hI
  have hl : lv_has ls 4 [(0, .ref (mo)), (1, .int (k)), (2, .int (a9))] := hl
  have hb_m_tp := hq_rng m_tp
  have hb_m_sz := hq_rng m_sz
  have hb_m_fr := hq_rng m_fr
  have hb_m_bh := hq_rng m_bh
  have hb_m_hd := hq_rng m_hd
  have hb_m_ft := hq_rng m_ft
  have hb_m_fa := hq_rng m_fa
  have hb_m_le := hq_rng m_le
  have hb_m_fo := hq_rng m_fo
  have hb_m_as := hq_rng m_as
  have hb_m_fd := hq_rng m_fd
  have hb_m_bc := hq_rng m_bc
  have hb_m_bg := hq_rng m_bg
  have hb_m_bs := hq_rng m_bs
  have hb_m_be := hq_rng m_be
  have hb_m_b0 := hq_rng m_b0
  have hb_m_b1 := hq_rng m_b1
  have hb_m_cm := hq_rng m_cm
  have hb_m_hc := hq_rng m_hc
  have hb_k := hq_rng k
  have hb_a9 := hq_rng a9
  have hu1 := hu.1
  have hL1 := hLT.1
  have hL2 := hLT.2.1
  refine lv_iload_n hx hb dX13_standsAt_0 rfl (lv_at hl 2 rfl) ?_
  refine lv_if_lt (tgt := 19) hx hb dX13_standsAt_1 (by decide) (fun c1 => ?_) (fun c1 => ?_)
  · have c1 : (a9).toInt < (0 : Int) := hq_lti.mp c1
    refine lv_iconst (v := 0) hx hb dX13_standsAt_19 (by decide) ?_
    have hl2 : (0 : Int32).toInt = 0 := by decide
    exact hp_zret hx hb hr rfl hlocks hZ ⟨rfl, rfl, Or.inr ⟨by omega, fun g9 => by have h9 := ((sp_pf_iff F _).mp g9.2).1; rw [List.length_drop] at h9; omega⟩⟩ dX13_standsAt_20
  · have c1 : ¬ (a9).toInt < (0 : Int) := fun h9 => c1 (hq_lti.mpr h9)
    refine lv_iload_n hx hb dX13_standsAt_4 rfl (lv_at hl 2 rfl) ?_
    refine lv_aload_n hx hb dX13_standsAt_5 rfl (lv_at hl 0 rfl) ?_
    refine hp_get (v := .ref (q + 14)) hx hb hts hown hZ hc0 fl_X13_41 rfl dX13_standsAt_6 ?_
    refine lv_iload_n hx hb dX13_standsAt_9 rfl (lv_at hl 1 rfl) ?_
    obtain ⟨rf3, hrf4⟩ : ∃ f : Nat → Int32, f = rh 14 := ⟨_, rfl⟩
    have ea5 : V (q + 14) = some (.inl (cs 1, 120, .inl (rf3))) := by rw [hrf4]; exact hp0 14 (by decide)
    have hra6 := hq_rg hP (hr_14 hR) ea5
    refine hp_iald hx hb hZ ea5 (hq_in (by omega) (by omega)) dX13_standsAt_10 ?_
    refine lv_topi (fun y7 ey8 => ?_)
    have b9 : hq_ir (hq_lo 1) (hq_hi 1) y7 := by rw [ey8]; exact hra6 _ (hq_ix (by omega) (by omega))
    have b9 : 0 ≤ (y7).toInt ∧ (y7).toInt ≤ 8 := b9
    have b10 : (y7).toInt = (rh 14 (k).toNatClampNeg).toInt := by rw [ey8, hrf4]
    refine lv_iadd hx hb dX13_standsAt_11 ?_
    refine lv_topi (fun y11 ey12 => ?_)
    obtain ⟨k13, hk14, b15, b16⟩ := hq_add (a9) (y7)
    rw [← ey12] at hk14 b15 b16
    have hk14 : (y11).toInt = (a9).toInt + (y7).toInt + k13 * 4294967296 := hk14
    obtain rfl : k13 = 0 := by omega
    refine lv_aload_n hx hb dX13_standsAt_12 rfl (lv_at hl 0 rfl) ?_
    refine hp_get (v := .int (m_le)) hx hb hts hown hZ hc0 fl_X13_331 rfl dX13_standsAt_13 ?_
    refine lv_icmp_le (tgt := 21) hx hb dX13_standsAt_16 (by decide) (fun c17 => ?_) (fun c17 => ?_)
    · have c17 : (y11).toInt ≤ (m_le).toInt := hq_lei.mp c17
      refine lv_iconst (v := 0) hx hb dX13_standsAt_21 (by decide) ?_
      refine lv_istore_n (lv' := [(3, .int (0)), (0, .ref (mo)), (1, .int (k)), (2, .int (a9))]) hx hb dX13_standsAt_22 rfl hl (by decide) rfl (fun ls hl => ?_)
      have hl18 : (0 : Int32).toInt = 0 := by decide
      suffices lp23 : ∀ (k9 : Nat) (H9 : Heap) (locs9 : List Loc) (ls : Array Slot) (i : Int32), (100 - i.toInt).toNat = k9 → hp_Z D cs B s V H9 n locs9 → hq_I cs G V → 0 ≤ i.toInt → i.toInt ≤ (F.length : Int) → (∀ (j : Nat) (x : Int), (j : Int) < i.toInt → F[j]? = some x → u[a9.toInt.toNat + j]? = some x) → lv_has ls 4 [(3, .int (i)), (0, .ref (mo)), (1, .int (k)), (2, .int (a9))] → W p l e ({ frames := 1, cells := 0, slots := 0, locals := 21 }) s m ([.ref (mo), .int (k), .int (a9)] : List Value).toArray below meth c H9 locs9 0 0 (MQ below (hp_QI D cs B (fun r V' n' => n = n' ∧ V = V' ∧ ((r.toInt = 1 ∧ 0 ≤ a9.toInt ∧ sp_pf F (u.drop a9.toInt.toNat) = true) ∨ (r.toInt = 0 ∧ ¬ (0 ≤ a9.toInt ∧ sp_pf F (u.drop a9.toInt.toNat) = true))))) ([.ref (mo), .int (k), .int (a9)] : List Value).toArray s 0 0 (hp_F B)) (F0 m 23 ls []) from lp23 _ _ _ ls (0) rfl hZ hP (by omega) (by omega) (fun j x hj => by omega) (lv_sub hl [0, 1, 2, 3] rfl)
      intro k9
      induction k9 using Nat.strongRecOn with
      | _ k9 ih23 =>
        intro H9 locs9 ls i   hk23 hZ hP    hv19 hv20 hin9 hl
        have hb_i := hq_rng i
        refine lv_iload_n hx hb dX13_standsAt_23 rfl (lv_at hl 0 rfl) ?_
        refine lv_aload_n hx hb dX13_standsAt_24 rfl (lv_at hl 1 rfl) ?_
        refine hp_get (v := .ref (q + 14)) hx hb hts hown hZ hc0 fl_X13_41 rfl dX13_standsAt_25 ?_
        refine lv_iload_n hx hb dX13_standsAt_28 rfl (lv_at hl 2 rfl) ?_
        refine hp_iald hx hb hZ ea5 (hq_in (by omega) (by omega)) dX13_standsAt_29 ?_
        refine lv_topi (fun y21 ey22 => ?_)
        have b23 : hq_ir (hq_lo 1) (hq_hi 1) y21 := by rw [ey22]; exact hra6 _ (hq_ix (by omega) (by omega))
        have b23 : 0 ≤ (y21).toInt ∧ (y21).toInt ≤ 8 := b23
        have b24 : (y21).toInt = (rh 14 (k).toNatClampNeg).toInt := by rw [ey22, hrf4]
        refine lv_icmp_ge (tgt := 63) hx hb dX13_standsAt_30 (by decide) (fun c25 => ?_) (fun c25 => ?_)
        · have c25 : (y21).toInt ≤ (i).toInt := hq_lei.mp c25
          refine lv_iconst (v := 1) hx hb dX13_standsAt_63 (by decide) ?_
          have hl26 : (1 : Int32).toInt = 1 := by decide
          exact hp_zret hx hb hr rfl hlocks hZ ⟨rfl, rfl, Or.inl ⟨by omega, by omega, (sp_pf_iff F _).mpr ⟨by rw [List.length_drop]; omega, fun j x hx => by have h9 := (List.getElem?_eq_some_iff.mp hx).1; rw [List.getElem?_drop]; exact hin9 j x (by omega) hx⟩⟩⟩ dX13_standsAt_64
        · have c25 : ¬ (y21).toInt ≤ (i).toInt := fun h9 => c25 (hq_lei.mpr h9)
          refine lv_aload_n hx hb dX13_standsAt_33 rfl (lv_at hl 1 rfl) ?_
          refine hp_get (v := .ref (q + 21)) hx hb hts hown hZ hc0 fl_X13_213 rfl dX13_standsAt_34 ?_
          refine lv_iload_n hx hb dX13_standsAt_37 rfl (lv_at hl 3 rfl) ?_
          refine lv_iload_n hx hb dX13_standsAt_38 rfl (lv_at hl 0 rfl) ?_
          refine lv_iadd hx hb dX13_standsAt_39 ?_
          refine lv_topi (fun y27 ey28 => ?_)
          obtain ⟨k29, hk30, b31, b32⟩ := hq_add (a9) (i)
          rw [← ey28] at hk30 b31 b32
          have hk30 : (y27).toInt = (a9).toInt + (i).toInt + k29 * 4294967296 := hk30
          obtain rfl : k29 = 0 := by omega
          refine hp_bald hx hb hZ hc1 (hq_in (by omega) (by omega)) dX13_standsAt_40 ?_
          refine lv_topi (fun y33 ey34 => ?_)
          have b35 := hq_rng y33
          have hn1 := (hq_nn (z := y27) (by omega)).1
          have hy1 : u[a9.toInt.toNat + i.toInt.toNat]? = some (y33).toInt := by rw [hu.nth (by omega), ey34, show (y27 : Int32).toNatClampNeg = a9.toInt.toNat + i.toInt.toNat by omega]
          refine lv_aload_n hx hb dX13_standsAt_41 rfl (lv_at hl 1 rfl) ?_
          refine hp_get (v := .ref (q + 5)) hx hb hts hown hZ hc0 fl_X13_23 rfl dX13_standsAt_42 ?_
          refine lv_bipush (v := 8) hx hb dX13_standsAt_45 (by decide) ?_
          refine lv_iload_n hx hb dX13_standsAt_47 rfl (lv_at hl 2 rfl) ?_
          refine lv_imul hx hb dX13_standsAt_48 ?_
          refine lv_topi (fun y36 ey37 => ?_)
          obtain ⟨k38, hk39, b40, b41⟩ := hq_mul (8) (k)
          rw [← ey37] at hk39 b40 b41
          have hk39 : (y36).toInt = (8 : Int) * (k).toInt + k38 * 4294967296 := hk39
          obtain rfl : k38 = 0 := by omega
          refine lv_iload_n hx hb dX13_standsAt_49 rfl (lv_at hl 0 rfl) ?_
          refine lv_iadd hx hb dX13_standsAt_50 ?_
          refine lv_topi (fun y42 ey43 => ?_)
          obtain ⟨k44, hk45, b46, b47⟩ := hq_add (y36) (i)
          rw [← ey43] at hk45 b46 b47
          have hk45 : (y42).toInt = (y36).toInt + (i).toInt + k44 * 4294967296 := hk45
          obtain rfl : k44 = 0 := by omega
          obtain ⟨rf48, hrf49⟩ : ∃ f : Nat → Int32, f = rh 5 := ⟨_, rfl⟩
          have ea50 : V (q + 5) = some (.inl (cs 0, 960, .inl (rf48))) := by rw [hrf49]; exact hp0 5 (by decide)
          refine hp_bald hx hb hZ ea50 (hq_in (by omega) (by omega)) dX13_standsAt_51 ?_
          refine lv_topi (fun y52 ey53 => ?_)
          have b54 := hq_rng y52
          have hn2 := (hq_nn (z := y42) (by omega)).1
          have hkn := (hq_nn (z := k) (by omega)).1
          obtain ⟨x9, hx9⟩ : ∃ x, F[i.toInt.toNat]? = some x := ⟨_, List.getElem?_eq_getElem (by omega)⟩
          have hy2 : (y52).toInt = x9 := by rw [ey53, hrf49, show (y42 : Int32).toNatClampNeg = 8 * (k).toNatClampNeg + i.toInt.toNat by omega]; exact hLT.2.2 _ _ hx9
          refine lv_icmp_eq (tgt := 57) hx hb dX13_standsAt_52 (by decide) (fun c55 => ?_) (fun c55 => ?_)
          · have c55 : (y33).toInt = (y52).toInt := hq_eqi.mp c55
            obtain ⟨y56, ey57⟩ : ∃ y : Int32, y = i + (1) := ⟨_, rfl⟩
            obtain ⟨k58, hk59, b60, b61⟩ := hq_add (i) (1)
            rw [← ey57] at hk59 b60 b61
            have hk59 : (y56).toInt = (i).toInt + (1) + k58 * 4294967296 := hk59
            obtain rfl : k58 = 0 := by omega
            refine lv_iinc (v := y56) (lv' := [(3, .int (y56)), (0, .ref (mo)), (1, .int (k)), (2, .int (a9))]) hx hb dX13_standsAt_57 hl (k := 0) rfl (by rw [ey57]; rfl) (by decide) rfl (fun ls hl => ?_)
            refine lv_goto (tgt := 23) hx hb dX13_standsAt_60 (by decide) ?_
            exact ih23 _ (by omega) _ _ ls (y56) rfl hZ hP (by omega) (by omega) (fun j x hj hx => by by_cases c9 : (j : Int) < i.toInt; (· exact hin9 j x c9 hx); (· obtain rfl : j = i.toInt.toNat := (by omega); cases hx9.symm.trans hx; rw [hy1]; exact congrArg some (by omega))) (lv_sub hl [0, 1, 2, 3] rfl)
          · have c55 : ¬ (y33).toInt = (y52).toInt := fun h9 => c55 (hq_eqi.mpr h9)
            refine lv_iconst (v := 0) hx hb dX13_standsAt_55 (by decide) ?_
            have hl62 : (0 : Int32).toInt = 0 := by decide
            exact hp_zret hx hb hr rfl hlocks hZ ⟨rfl, rfl, Or.inr ⟨by omega, fun g9 => by have h9 := ((sp_pf_iff F _).mp g9.2).2 _ _ hx9; rw [List.getElem?_drop, hy1] at h9; have h8 := Option.some.inj h9; omega⟩⟩ dX13_standsAt_56
    · have c17 : ¬ (y11).toInt ≤ (m_le).toInt := fun h9 => c17 (hq_lei.mpr h9)
      refine lv_iconst (v := 0) hx hb dX13_standsAt_19 (by decide) ?_
      have hl63 : (0 : Int32).toInt = 0 := by decide
      exact hp_zret hx hb hr rfl hlocks hZ ⟨rfl, rfl, Or.inr ⟨by omega, fun g9 => by have h9 := ((sp_pf_iff F _).mp g9.2).1; rw [List.length_drop] at h9; omega⟩⟩ dX13_standsAt_20

set_option maxHeartbeats 4000000 in
set_option maxRecDepth 100000 in
theorem y_changeAt (l : Launch) (D : va_G) (cs : Nat → ClassId) (B : Nat) (G : hq_G) (V : hp_V) (n : Nat) (hI : hq_I cs G V) (q : Nat) (mo : Nat) (rh : hm_Rh) (m_tp : Int32) (m_sz : Int32) (m_fr : Int32) (m_bh : Int32) (m_hd : Int32) (m_ft : Int32) (m_fa : Int32) (m_le : Int32) (m_fo : Int32) (m_as : Int32) (m_fd : Int32) (m_bc : Int32) (m_bg : Int32) (m_bs : Int32) (m_be : Int32) (m_b0 : Int32) (m_b1 : Int32) (m_cm : Int32) (m_hc : Int32) (k : Int32) (a9 : Int32) (wf : Nat → Int32) (sf : Nat → Int32) (u : List Int) (F : List Int) (S : List Int) (hc0 : V (mo) = some (.inr (13, hm_o q (m_tp) (m_sz) (m_fr) (m_bh) (m_hd) (m_ft) (m_fa) (m_le) (m_fo) (m_as) (m_fd) (m_bc) (m_bg) (m_bs) (m_be) (m_b0) (m_b1) (m_cm) (m_hc)))) (hc1 : V (q + 21) = some (.inl (cs 0, 276, .inl (wf)))) (hc2 : V (q + 22) = some (.inl (cs 0, 276, .inl (sf)))) (hp0 : hm_AR cs V q rh) (hR : hq_RT G q) (hmo : G mo = some (24, 0, 0, 0)) (hmq : mo < q) (hu : sp_rp m_le wf u) (hFT : hm_FT rh 14 5 (k).toNatClampNeg F) (hST : hm_FT rh 15 6 (k).toNatClampNeg S) (ha : 0 ≤ a9.toInt ∧ a9.toInt + (F.length : Int) ≤ (u.length : Int)) (hc : u.length ≤ 268) (hub : sp_b8 u) (hSb : sp_b8 S) (hk : 0 ≤ k.toInt ∧ k.toInt < 60) : hp_M l yX13_changeAt cX13_changeAt 5 none ({ frames := 1, cells := 0, slots := 0, locals := 21 }) D cs B V n [.ref (mo), .int (k), .int (a9)] (hp_QV D cs B (fun V' n' => n = n' ∧ hq_P cs G (fun _ => true) V V' ∧ (∀ x, x ≠ mo → x ≠ q + 21 → x ≠ q + 22 → V' x = V x) ∧ (∃ m_le1 : Int32, ∃ wf1 : Nat → Int32, ∃ sf1 : Nat → Int32, V' (mo) = some (.inr (13, hm_o q (m_tp) (m_sz) (m_fr) (m_bh) (m_hd) (m_ft) (m_fa) (m_le1) (m_fo) (m_as) (m_fd) (m_bc) (m_bg) (m_bs) (m_be) (m_b0) (m_b1) (m_cm) (m_hc))) ∧ V' (q + 21) = some (.inl (cs 0, 276, .inl (wf1))) ∧ V' (q + 22) = some (.inl (cs 0, 276, .inl (sf1))) ∧ (sp_rp m_le1 wf1 (sp_cg F S u a9.toInt.toNat))))) 0 0 := by
  refine hp_walk (R0 := RX13) (by decide) rfl ?_ (Nat.le_of_ble_eq_true rfl)
  intro p e s m below meth c ls hx hb hr hts hown hlocks hin hml hZ hl
  have hP : hq_P cs G (fun _ => true) V V := hq_P.rf hI
  have hl : lv_has ls 5 [(0, .ref (mo)), (1, .int (k)), (2, .int (a9))] := hl
  have hb_m_tp := hq_rng m_tp
  have hb_m_sz := hq_rng m_sz
  have hb_m_fr := hq_rng m_fr
  have hb_m_bh := hq_rng m_bh
  have hb_m_hd := hq_rng m_hd
  have hb_m_ft := hq_rng m_ft
  have hb_m_fa := hq_rng m_fa
  have hb_m_le := hq_rng m_le
  have hb_m_fo := hq_rng m_fo
  have hb_m_as := hq_rng m_as
  have hb_m_fd := hq_rng m_fd
  have hb_m_bc := hq_rng m_bc
  have hb_m_bg := hq_rng m_bg
  have hb_m_bs := hq_rng m_bs
  have hb_m_be := hq_rng m_be
  have hb_m_b0 := hq_rng m_b0
  have hb_m_b1 := hq_rng m_b1
  have hb_m_cm := hq_rng m_cm
  have hb_m_hc := hq_rng m_hc
  have hb_k := hq_rng k
  have hb_a9 := hq_rng a9
  have hH0 : hm_H rh rh := hm_H.rf
  have hu1 := hu.1
  have hL1 := hFT.1
  have hL2 := hFT.2.1
  have hS1 := hST.1
  have hS2 := hST.2.1
  have hNl := sp_cg_len (f := F) (s := S) (u := u) (a := a9.toInt.toNat) (by omega)
  refine lv_iconst (v := 0) hx hb dX13_changeAt_0 (by decide) ?_
  refine lv_istore_n (lv' := [(3, .int (0)), (0, .ref (mo)), (1, .int (k)), (2, .int (a9))]) hx hb dX13_changeAt_1 rfl hl (by decide) rfl (fun ls hl => ?_)
  refine lv_iconst (v := 0) hx hb dX13_changeAt_2 (by decide) ?_
  refine lv_istore (lv' := [(4, .int (0)), (3, .int (0)), (0, .ref (mo)), (1, .int (k)), (2, .int (a9))]) hx hb dX13_changeAt_3 hl (by decide) rfl (fun ls hl => ?_)
  have hl5 : (0 : Int32).toInt = 0 := by decide
  have hl6 : (0 : Int32).toInt = 0 := by decide
  suffices lp5 : ∀ (k9 : Nat) (V9 : hp_V) (H9 : Heap) (locs9 : List Loc) (ls : Array Slot) (no5 : Int32) (i5 : Int32) (sp5 : Nat → Int32), (1000 - i5.toInt).toNat = k9 → hp_Z D cs B s V9 H9 n locs9 → hq_P cs G (fun _ => true) V V9 → V9 (mo) = some (.inr (13, hm_o q (m_tp) (m_sz) (m_fr) (m_bh) (m_hd) (m_ft) (m_fa) (m_le) (m_fo) (m_as) (m_fd) (m_bc) (m_bg) (m_bs) (m_be) (m_b0) (m_b1) (m_cm) (m_hc))) → V9 (q + 21) = some (.inl (cs 0, 276, .inl (wf))) → V9 (q + 22) = some (.inl (cs 0, 276, .inl (sp5))) → (∀ x, x ≠ mo → x ≠ q + 21 → x ≠ q + 22 → V9 x = V x) → hm_AR cs V9 q rh → 0 ≤ i5.toInt → i5.toInt ≤ a9.toInt → no5.toInt = i5.toInt → (∀ (j : Nat) (x : Int), (j : Int) < no5.toInt → (sp_cg F S u a9.toInt.toNat)[j]? = some x → (sp5 j).toInt = x) → lv_has ls 5 [(4, .int (i5)), (3, .int (no5)), (0, .ref (mo)), (1, .int (k)), (2, .int (a9))] → W p l e ({ frames := 1, cells := 0, slots := 0, locals := 21 }) s m ([.ref (mo), .int (k), .int (a9)] : List Value).toArray below meth c H9 locs9 0 0 (MQ below (hp_QV D cs B (fun V' n' => n = n' ∧ hq_P cs G (fun _ => true) V V' ∧ (∀ x, x ≠ mo → x ≠ q + 21 → x ≠ q + 22 → V' x = V x) ∧ (∃ m_le1 : Int32, ∃ wf1 : Nat → Int32, ∃ sf1 : Nat → Int32, V' (mo) = some (.inr (13, hm_o q (m_tp) (m_sz) (m_fr) (m_bh) (m_hd) (m_ft) (m_fa) (m_le1) (m_fo) (m_as) (m_fd) (m_bc) (m_bg) (m_bs) (m_be) (m_b0) (m_b1) (m_cm) (m_hc))) ∧ V' (q + 21) = some (.inl (cs 0, 276, .inl (wf1))) ∧ V' (q + 22) = some (.inl (cs 0, 276, .inl (sf1))) ∧ (sp_rp m_le1 wf1 (sp_cg F S u a9.toInt.toNat))))) ([.ref (mo), .int (k), .int (a9)] : List Value).toArray s 0 0 (hp_F B)) (F0 m 5 ls []) from lp5 _ _ _ _ ls (0) (0) (sf) rfl hZ hP hc0 hc1 hc2 (fun x8 hne0 hne1 hne2 => rfl) hp0 (by omega) (by omega) (by omega) (fun j x hj => by omega) (lv_sub hl [0, 1, 2, 3, 4] rfl)
  intro k9
  induction k9 using Nat.strongRecOn with
  | _ k9 ih5 =>
    intro V9 H9 locs9 ls no5 i5  sp5 hk5 hZ hP ho1 ho2 ho3 fr5 pk4 hv7 hv8 hv9 hsp5 hl
    have hb_no5 := hq_rng no5
    have hb_i5 := hq_rng i5
    have hf10 := hq_rg20 hP.1 (hr_21 hR) ho2
    have hf11 := hq_rg20 hP.1 (hr_22 hR) ho3
    refine lv_iload hx hb dX13_changeAt_5 (lv_at hl 0 rfl) ?_
    refine lv_iload_n hx hb dX13_changeAt_7 rfl (lv_at hl 4 rfl) ?_
    refine lv_icmp_ge (tgt := 33) hx hb dX13_changeAt_8 (by decide) (fun c12 => ?_) (fun c12 => ?_)
    · have c12 : (a9).toInt ≤ (i5).toInt := hq_lei.mp c12
      refine lv_iconst (v := 0) hx hb dX13_changeAt_33 (by decide) ?_
      refine lv_istore (lv' := [(4, .int (0)), (3, .int (no5)), (0, .ref (mo)), (1, .int (k)), (2, .int (a9))]) hx hb dX13_changeAt_34 hl (by decide) rfl (fun ls hl => ?_)
      have hl17 : (0 : Int32).toInt = 0 := by decide
      suffices lp36 : ∀ (k9 : Nat) (V9 : hp_V) (H9 : Heap) (locs9 : List Loc) (ls : Array Slot) (no36 : Int32) (i36 : Int32) (sp36 : Nat → Int32), (1000 - i36.toInt).toNat = k9 → hp_Z D cs B s V9 H9 n locs9 → hq_P cs G (fun _ => true) V V9 → V9 (mo) = some (.inr (13, hm_o q (m_tp) (m_sz) (m_fr) (m_bh) (m_hd) (m_ft) (m_fa) (m_le) (m_fo) (m_as) (m_fd) (m_bc) (m_bg) (m_bs) (m_be) (m_b0) (m_b1) (m_cm) (m_hc))) → V9 (q + 21) = some (.inl (cs 0, 276, .inl (wf))) → V9 (q + 22) = some (.inl (cs 0, 276, .inl (sp36))) → (∀ x, x ≠ mo → x ≠ q + 21 → x ≠ q + 22 → V9 x = V x) → hm_AR cs V9 q rh → 0 ≤ i36.toInt → i36.toInt ≤ (S.length : Int) → no36.toInt = a9.toInt + i36.toInt → (∀ (j : Nat) (x : Int), (j : Int) < no36.toInt → (sp_cg F S u a9.toInt.toNat)[j]? = some x → (sp36 j).toInt = x) → lv_has ls 5 [(4, .int (i36)), (3, .int (no36)), (0, .ref (mo)), (1, .int (k)), (2, .int (a9))] → W p l e ({ frames := 1, cells := 0, slots := 0, locals := 21 }) s m ([.ref (mo), .int (k), .int (a9)] : List Value).toArray below meth c H9 locs9 0 0 (MQ below (hp_QV D cs B (fun V' n' => n = n' ∧ hq_P cs G (fun _ => true) V V' ∧ (∀ x, x ≠ mo → x ≠ q + 21 → x ≠ q + 22 → V' x = V x) ∧ (∃ m_le1 : Int32, ∃ wf1 : Nat → Int32, ∃ sf1 : Nat → Int32, V' (mo) = some (.inr (13, hm_o q (m_tp) (m_sz) (m_fr) (m_bh) (m_hd) (m_ft) (m_fa) (m_le1) (m_fo) (m_as) (m_fd) (m_bc) (m_bg) (m_bs) (m_be) (m_b0) (m_b1) (m_cm) (m_hc))) ∧ V' (q + 21) = some (.inl (cs 0, 276, .inl (wf1))) ∧ V' (q + 22) = some (.inl (cs 0, 276, .inl (sf1))) ∧ (sp_rp m_le1 wf1 (sp_cg F S u a9.toInt.toNat))))) ([.ref (mo), .int (k), .int (a9)] : List Value).toArray s 0 0 (hp_F B)) (F0 m 36 ls []) from lp36 _ _ _ _ ls (no5) (0) (sp5) rfl hZ hP ho1 ho2 ho3 (fun x8 hne0 hne1 hne2 => fr5 x8 hne0 hne1 hne2) pk4 (by omega) (by omega) (by omega) (hsp5) (lv_sub hl [0, 1, 2, 3, 4] rfl)
      intro k9
      induction k9 using Nat.strongRecOn with
      | _ k9 ih36 =>
        intro V9 H9 locs9 ls no36 i36  sp36 hk36 hZ hP ho13 ho14 ho15 fr36 pk16 hv18 hv19 hv20 hsp36 hl
        have hb_no36 := hq_rng no36
        have hb_i36 := hq_rng i36
        have hf21 := hq_rg20 hP.1 (hr_21 hR) ho14
        have hf22 := hq_rg20 hP.1 (hr_22 hR) ho15
        refine lv_iload hx hb dX13_changeAt_36 (lv_at hl 0 rfl) ?_
        refine lv_aload_n hx hb dX13_changeAt_38 rfl (lv_at hl 2 rfl) ?_
        refine hp_get (v := .ref (q + 15)) hx hb hts hown hZ ho13 fl_X13_44 rfl dX13_changeAt_39 ?_
        refine lv_iload_n hx hb dX13_changeAt_42 rfl (lv_at hl 3 rfl) ?_
        obtain ⟨rf23, hrf24⟩ : ∃ f : Nat → Int32, f = rh 15 := ⟨_, rfl⟩
        have ea25 : V9 (q + 15) = some (.inl (cs 1, 120, .inl (rf23))) := by rw [hrf24]; exact pk16 15 (by decide)
        have hra26 := hq_rg hP.1 (hr_15 hR) ea25
        refine hp_iald hx hb hZ ea25 (hq_in (by omega) (by omega)) dX13_changeAt_43 ?_
        refine lv_topi (fun y27 ey28 => ?_)
        have b29 : hq_ir (hq_lo 1) (hq_hi 1) y27 := by rw [ey28]; exact hra26 _ (hq_ix (by omega) (by omega))
        have b29 : 0 ≤ (y27).toInt ∧ (y27).toInt ≤ 8 := b29
        have b30 : (y27).toInt = (rh 15 (k).toNatClampNeg).toInt := by rw [ey28, hrf24]
        refine lv_icmp_ge (tgt := 74) hx hb dX13_changeAt_44 (by decide) (fun c31 => ?_) (fun c31 => ?_)
        · have c31 : (y27).toInt ≤ (i36).toInt := hq_lei.mp c31
          refine lv_iload_n hx hb dX13_changeAt_74 rfl (lv_at hl 4 rfl) ?_
          refine lv_aload_n hx hb dX13_changeAt_75 rfl (lv_at hl 2 rfl) ?_
          refine hp_get (v := .ref (q + 14)) hx hb hts hown hZ ho13 fl_X13_41 rfl dX13_changeAt_76 ?_
          refine lv_iload_n hx hb dX13_changeAt_79 rfl (lv_at hl 3 rfl) ?_
          obtain ⟨rf32, hrf33⟩ : ∃ f : Nat → Int32, f = rh 14 := ⟨_, rfl⟩
          have ea34 : V9 (q + 14) = some (.inl (cs 1, 120, .inl (rf32))) := by rw [hrf33]; exact pk16 14 (by decide)
          have hra35 := hq_rg hP.1 (hr_14 hR) ea34
          refine hp_iald hx hb hZ ea34 (hq_in (by omega) (by omega)) dX13_changeAt_80 ?_
          refine lv_topi (fun y36 ey37 => ?_)
          have b38 : hq_ir (hq_lo 1) (hq_hi 1) y36 := by rw [ey37]; exact hra35 _ (hq_ix (by omega) (by omega))
          have b38 : 0 ≤ (y36).toInt ∧ (y36).toInt ≤ 8 := b38
          have b39 : (y36).toInt = (rh 14 (k).toNatClampNeg).toInt := by rw [ey37, hrf33]
          refine lv_iadd hx hb dX13_changeAt_81 ?_
          refine lv_topi (fun y40 ey41 => ?_)
          obtain ⟨k42, hk43, b44, b45⟩ := hq_add (a9) (y36)
          rw [← ey41] at hk43 b44 b45
          have hk43 : (y40).toInt = (a9).toInt + (y36).toInt + k42 * 4294967296 := hk43
          obtain rfl : k42 = 0 := by omega
          refine lv_istore (lv' := [(4, .int (y40)), (3, .int (no36)), (0, .ref (mo)), (1, .int (k)), (2, .int (a9))]) hx hb dX13_changeAt_82 hl (by decide) rfl (fun ls hl => ?_)
          suffices lp84 : ∀ (k9 : Nat) (V9 : hp_V) (H9 : Heap) (locs9 : List Loc) (ls : Array Slot) (no84 : Int32) (i84 : Int32) (sp84 : Nat → Int32), (1000 - i84.toInt).toNat = k9 → hp_Z D cs B s V9 H9 n locs9 → hq_P cs G (fun _ => true) V V9 → V9 (mo) = some (.inr (13, hm_o q (m_tp) (m_sz) (m_fr) (m_bh) (m_hd) (m_ft) (m_fa) (m_le) (m_fo) (m_as) (m_fd) (m_bc) (m_bg) (m_bs) (m_be) (m_b0) (m_b1) (m_cm) (m_hc))) → V9 (q + 21) = some (.inl (cs 0, 276, .inl (wf))) → V9 (q + 22) = some (.inl (cs 0, 276, .inl (sp84))) → (∀ x, x ≠ mo → x ≠ q + 21 → x ≠ q + 22 → V9 x = V x) → hm_AR cs V9 q rh → a9.toInt + (F.length : Int) ≤ i84.toInt → i84.toInt ≤ (u.length : Int) → no84.toInt = (S.length : Int) + i84.toInt - (F.length : Int) → (∀ (j : Nat) (x : Int), (j : Int) < no84.toInt → (sp_cg F S u a9.toInt.toNat)[j]? = some x → (sp84 j).toInt = x) → lv_has ls 5 [(4, .int (i84)), (3, .int (no84)), (0, .ref (mo)), (1, .int (k)), (2, .int (a9))] → W p l e ({ frames := 1, cells := 0, slots := 0, locals := 21 }) s m ([.ref (mo), .int (k), .int (a9)] : List Value).toArray below meth c H9 locs9 0 0 (MQ below (hp_QV D cs B (fun V' n' => n = n' ∧ hq_P cs G (fun _ => true) V V' ∧ (∀ x, x ≠ mo → x ≠ q + 21 → x ≠ q + 22 → V' x = V x) ∧ (∃ m_le1 : Int32, ∃ wf1 : Nat → Int32, ∃ sf1 : Nat → Int32, V' (mo) = some (.inr (13, hm_o q (m_tp) (m_sz) (m_fr) (m_bh) (m_hd) (m_ft) (m_fa) (m_le1) (m_fo) (m_as) (m_fd) (m_bc) (m_bg) (m_bs) (m_be) (m_b0) (m_b1) (m_cm) (m_hc))) ∧ V' (q + 21) = some (.inl (cs 0, 276, .inl (wf1))) ∧ V' (q + 22) = some (.inl (cs 0, 276, .inl (sf1))) ∧ (sp_rp m_le1 wf1 (sp_cg F S u a9.toInt.toNat))))) ([.ref (mo), .int (k), .int (a9)] : List Value).toArray s 0 0 (hp_F B)) (F0 m 84 ls []) from lp84 _ _ _ _ ls (no36) (y40) (sp36) rfl hZ hP ho13 ho14 ho15 (fun x8 hne0 hne1 hne2 => fr36 x8 hne0 hne1 hne2) pk16 (by omega) (by omega) (by omega) (hsp36) (lv_sub hl [0, 1, 2, 3, 4] rfl)
          intro k9
          induction k9 using Nat.strongRecOn with
          | _ k9 ih84 =>
            intro V9 H9 locs9 ls no84 i84  sp84 hk84 hZ hP ho46 ho47 ho48 fr84 pk49 hv50 hv51 hv52 hsp84 hl
            have hb_no84 := hq_rng no84
            have hb_i84 := hq_rng i84
            have hf53 := hq_rg20 hP.1 (hr_21 hR) ho47
            have hf54 := hq_rg20 hP.1 (hr_22 hR) ho48
            refine lv_iload hx hb dX13_changeAt_84 (lv_at hl 0 rfl) ?_
            refine lv_aload_n hx hb dX13_changeAt_86 rfl (lv_at hl 2 rfl) ?_
            refine hp_get (v := .int (m_le)) hx hb hts hown hZ ho46 fl_X13_331 rfl dX13_changeAt_87 ?_
            refine lv_icmp_ge (tgt := 115) hx hb dX13_changeAt_90 (by decide) (fun c55 => ?_) (fun c55 => ?_)
            · have c55 : (m_le).toInt ≤ (i84).toInt := hq_lei.mp c55
              refine lv_iconst (v := 0) hx hb dX13_changeAt_115 (by decide) ?_
              refine lv_istore (lv' := [(4, .int (0)), (3, .int (no84)), (0, .ref (mo)), (1, .int (k)), (2, .int (a9))]) hx hb dX13_changeAt_116 hl (by decide) rfl (fun ls hl => ?_)
              have hl60 : (0 : Int32).toInt = 0 := by decide
              suffices lp118 : ∀ (k9 : Nat) (V9 : hp_V) (H9 : Heap) (locs9 : List Loc) (ls : Array Slot) (i118 : Int32) (wd9 : Nat → Int32), (1000 - i118.toInt).toNat = k9 → hp_Z D cs B s V9 H9 n locs9 → hq_P cs G (fun _ => true) V V9 → V9 (mo) = some (.inr (13, hm_o q (m_tp) (m_sz) (m_fr) (m_bh) (m_hd) (m_ft) (m_fa) (m_le) (m_fo) (m_as) (m_fd) (m_bc) (m_bg) (m_bs) (m_be) (m_b0) (m_b1) (m_cm) (m_hc))) → V9 (q + 21) = some (.inl (cs 0, 276, .inl (wd9))) → V9 (q + 22) = some (.inl (cs 0, 276, .inl (sp84))) → (∀ x, x ≠ mo → x ≠ q + 21 → x ≠ q + 22 → V9 x = V x) → hm_AR cs V9 q rh → 0 ≤ i118.toInt → i118.toInt ≤ ((sp_cg F S u a9.toInt.toNat).length : Int) → (∀ (j : Nat) (x : Int), (j : Int) < i118.toInt → (sp_cg F S u a9.toInt.toNat)[j]? = some x → (wd9 j).toInt = x) → lv_has ls 5 [(4, .int (i118)), (3, .int (no84)), (0, .ref (mo)), (1, .int (k)), (2, .int (a9))] → W p l e ({ frames := 1, cells := 0, slots := 0, locals := 21 }) s m ([.ref (mo), .int (k), .int (a9)] : List Value).toArray below meth c H9 locs9 0 0 (MQ below (hp_QV D cs B (fun V' n' => n = n' ∧ hq_P cs G (fun _ => true) V V' ∧ (∀ x, x ≠ mo → x ≠ q + 21 → x ≠ q + 22 → V' x = V x) ∧ (∃ m_le1 : Int32, ∃ wf1 : Nat → Int32, ∃ sf1 : Nat → Int32, V' (mo) = some (.inr (13, hm_o q (m_tp) (m_sz) (m_fr) (m_bh) (m_hd) (m_ft) (m_fa) (m_le1) (m_fo) (m_as) (m_fd) (m_bc) (m_bg) (m_bs) (m_be) (m_b0) (m_b1) (m_cm) (m_hc))) ∧ V' (q + 21) = some (.inl (cs 0, 276, .inl (wf1))) ∧ V' (q + 22) = some (.inl (cs 0, 276, .inl (sf1))) ∧ (sp_rp m_le1 wf1 (sp_cg F S u a9.toInt.toNat))))) ([.ref (mo), .int (k), .int (a9)] : List Value).toArray s 0 0 (hp_F B)) (F0 m 118 ls []) from lp118 _ _ _ _ ls (0) (wf) rfl hZ hP ho46 ho47 ho48 (fun x8 hne0 hne1 hne2 => fr84 x8 hne0 hne1 hne2) pk49 (by omega) (by omega) (fun j x hj => by omega) (lv_sub hl [0, 1, 2, 3, 4] rfl)
              intro k9
              induction k9 using Nat.strongRecOn with
              | _ k9 ih118 =>
                intro V9 H9 locs9 ls i118  wd9 hk118 hZ hP ho56 ho57 ho58 fr118 pk59 hv61 hv62 hwd hl
                have hb_i118 := hq_rng i118
                have hf63 := hq_rg20 hP.1 (hr_21 hR) ho57
                have hf64 := hq_rg20 hP.1 (hr_22 hR) ho58
                refine lv_iload hx hb dX13_changeAt_118 (lv_at hl 0 rfl) ?_
                refine lv_iload_n hx hb dX13_changeAt_120 rfl (lv_at hl 1 rfl) ?_
                refine lv_icmp_ge (tgt := 144) hx hb dX13_changeAt_121 (by decide) (fun c65 => ?_) (fun c65 => ?_)
                · have c65 : (no84).toInt ≤ (i118).toInt := hq_lei.mp c65
                  refine lv_aload_n hx hb dX13_changeAt_144 rfl (lv_at hl 2 rfl) ?_
                  refine lv_iload_n hx hb dX13_changeAt_145 rfl (lv_at hl 1 rfl) ?_
                  refine hp_put hx hb hts hown hZ ho56 fp_X13_331 rfl rfl (Nat.le_of_ble_eq_true rfl) dX13_changeAt_146 (fun V66 _ _ e67 o68 hZ => ?_)
                  have e67 : V66 (mo) = some (.inr (13, hm_o q (m_tp) (m_sz) (m_fr) (m_bh) (m_hd) (m_ft) (m_fa) (no84) (m_fo) (m_as) (m_fd) (m_bc) (m_bg) (m_bs) (m_be) (m_b0) (m_b1) (m_cm) (m_hc))) := e67
                  have hP := hP.put hmo e67 o68 (trivial) rfl
                  have fx69 : V66 (q + 21) = some (.inl (cs 0, 276, .inl (wd9))) := (o68 (q + 21) (hq_tne (hr_21 hR) hmo (by simp))).trans (ho57)
                  have fx70 : V66 (q + 22) = some (.inl (cs 0, 276, .inl (sp84))) := (o68 (q + 22) (hq_tne (hr_22 hR) hmo (by simp))).trans (ho58)
                  exact hp_vret hx hb hr hlocks hZ ⟨rfl, hP, (fun x8 hne0 hne1 hne2 => (o68 x8 hne0).trans (fr118 x8 hne0 hne1 hne2)), no84, wd9, sp84, e67, fx69, fx70, ⟨by rw [hNl]; omega, fun j x hx => by have h9 := (List.getElem?_eq_some_iff.mp hx).1; exact hwd j x (by omega) hx⟩⟩ dX13_changeAt_149
                · have c65 : ¬ (no84).toInt ≤ (i118).toInt := fun h9 => c65 (hq_lei.mpr h9)
                  refine lv_aload_n hx hb dX13_changeAt_124 rfl (lv_at hl 2 rfl) ?_
                  refine hp_get (v := .ref (q + 21)) hx hb hts hown hZ ho56 fl_X13_213 rfl dX13_changeAt_125 ?_
                  refine lv_iload hx hb dX13_changeAt_128 (lv_at hl 0 rfl) ?_
                  refine lv_aload_n hx hb dX13_changeAt_130 rfl (lv_at hl 2 rfl) ?_
                  refine hp_get (v := .ref (q + 22)) hx hb hts hown hZ ho56 fl_X13_216 rfl dX13_changeAt_131 ?_
                  refine lv_iload hx hb dX13_changeAt_134 (lv_at hl 0 rfl) ?_
                  refine hp_bald hx hb hZ ho58 (hq_in (by omega) (by omega)) dX13_changeAt_136 ?_
                  refine lv_topi (fun y71 ey72 => ?_)
                  have b73 := hq_rng y71
                  refine hp_bast hx hb hZ ho57 (hq_in (by omega) (by omega)) dX13_changeAt_137 (fun V74 _ _ e75 o76 hZ => ?_)
                  have e75 : V74 (q + 21) = some (.inl (cs 0, 276, .inl (upd (wd9) ((i118 : Int32).toNatClampNeg) ((y71 : Int32).toInt8.toInt32)))) := e75
                  have hP := hP.put (hr_21 hR) e75 o76 (hq_c20 (by omega)) rfl
                  obtain ⟨g77, ge78⟩ : ∃ g9 : Nat → Int32, g9 = upd (wd9) ((i118 : Int32).toNatClampNeg) ((y71 : Int32).toInt8.toInt32) := ⟨_, rfl⟩
                  have fx79 : V74 (q + 21) = some (.inl (cs 0, 276, .inl (g77))) := by rw [ge78]; exact e75
                  have hf80 := hq_rg20 hP.1 (hr_21 hR) fx79
                  obtain ⟨y81, ey82⟩ : ∃ y : Int32, y = i118 + (1) := ⟨_, rfl⟩
                  obtain ⟨k83, hk84, b85, b86⟩ := hq_add (i118) (1)
                  rw [← ey82] at hk84 b85 b86
                  have hk84 : (y81).toInt = (i118).toInt + (1) + k83 * 4294967296 := hk84
                  obtain rfl : k83 = 0 := by omega
                  refine lv_iinc (v := y81) (lv' := [(4, .int (y81)), (3, .int (no84)), (0, .ref (mo)), (1, .int (k)), (2, .int (a9))]) hx hb dX13_changeAt_138 hl (k := 0) rfl (by rw [ey82]; rfl) (by decide) rfl (fun ls hl => ?_)
                  refine lv_goto (tgt := 118) hx hb dX13_changeAt_141 (by decide) ?_
                  have fx87 : V74 (mo) = some (.inr (13, hm_o q (m_tp) (m_sz) (m_fr) (m_bh) (m_hd) (m_ft) (m_fa) (m_le) (m_fo) (m_as) (m_fd) (m_bc) (m_bg) (m_bs) (m_be) (m_b0) (m_b1) (m_cm) (m_hc))) := (o76 (mo) (hq_tne hmo (hr_21 hR) (by simp))).trans (ho56)
                  have fx88 : V74 (q + 22) = some (.inl (cs 0, 276, .inl (sp84))) := (o76 (q + 22) (hq_ne q 22 21 (by decide))).trans (ho58)
                  have pk89 := pk59.keep (fun x7 (hx7 : q ≤ x7 ∧ x7 < q + 19) => o76 x7 (by omega))
                  exact ih118 _ (by omega) _ _ _ ls (y81) (g77) rfl hZ hP fx87 fx79 fx88 (fun x8 hne0 hne1 hne2 => (o76 x8 hne1).trans (fr118 x8 hne0 hne1 hne2)) pk89 (by omega) (by omega) (fun j x hj hx => by rw [ge78]; have h8 := (hq_nn (z := i118) (by omega)).1; by_cases c9 : (j : Int) < i118.toInt; (· rw [hm_un (by omega)]; exact hwd j x c9 hx); (· obtain rfl : j = i118.toNatClampNeg := (by omega); rw [hm_ue, ey72]; have h6 := hsp84 _ x (by omega) hx; rw [hx_n8 (by rw [h6]; exact sp_cg_b8 hub hSb _ _ hx)]; exact h6)) (lv_sub hl [0, 1, 2, 3, 4] rfl)
            · have c55 : ¬ (m_le).toInt ≤ (i84).toInt := fun h9 => c55 (hq_lei.mpr h9)
              refine lv_aload_n hx hb dX13_changeAt_93 rfl (lv_at hl 2 rfl) ?_
              refine hp_get (v := .ref (q + 22)) hx hb hts hown hZ ho46 fl_X13_216 rfl dX13_changeAt_94 ?_
              refine lv_iload_n hx hb dX13_changeAt_97 rfl (lv_at hl 1 rfl) ?_
              refine lv_aload_n hx hb dX13_changeAt_98 rfl (lv_at hl 2 rfl) ?_
              refine hp_get (v := .ref (q + 21)) hx hb hts hown hZ ho46 fl_X13_213 rfl dX13_changeAt_99 ?_
              refine lv_iload hx hb dX13_changeAt_102 (lv_at hl 0 rfl) ?_
              refine hp_bald hx hb hZ ho47 (hq_in (by omega) (by omega)) dX13_changeAt_104 ?_
              refine lv_topi (fun y90 ey91 => ?_)
              have b92 := hq_rng y90
              have hvn := (hq_nn (z := i84) (by omega)).1
              have hvx : u[i84.toInt.toNat]? = some (y90).toInt := by rw [hu.nth (by omega), ey91, show (i84 : Int32).toNatClampNeg = i84.toInt.toNat by omega]
              refine hp_bast hx hb hZ ho48 (hq_in (by omega) (by omega)) dX13_changeAt_105 (fun V93 _ _ e94 o95 hZ => ?_)
              have e94 : V93 (q + 22) = some (.inl (cs 0, 276, .inl (upd (sp84) ((no84 : Int32).toNatClampNeg) ((y90 : Int32).toInt8.toInt32)))) := e94
              have hP := hP.put (hr_22 hR) e94 o95 (hq_c20 (by omega)) rfl
              obtain ⟨g96, ge97⟩ : ∃ g9 : Nat → Int32, g9 = upd (sp84) ((no84 : Int32).toNatClampNeg) ((y90 : Int32).toInt8.toInt32) := ⟨_, rfl⟩
              have fx98 : V93 (q + 22) = some (.inl (cs 0, 276, .inl (g96))) := by rw [ge97]; exact e94
              have hf99 := hq_rg20 hP.1 (hr_22 hR) fx98
              obtain ⟨y100, ey101⟩ : ∃ y : Int32, y = no84 + (1) := ⟨_, rfl⟩
              obtain ⟨k102, hk103, b104, b105⟩ := hq_add (no84) (1)
              rw [← ey101] at hk103 b104 b105
              have hk103 : (y100).toInt = (no84).toInt + (1) + k102 * 4294967296 := hk103
              obtain rfl : k102 = 0 := by omega
              refine lv_iinc (v := y100) (lv' := [(3, .int (y100)), (4, .int (i84)), (0, .ref (mo)), (1, .int (k)), (2, .int (a9))]) hx hb dX13_changeAt_106 hl (k := 1) rfl (by rw [ey101]; rfl) (by decide) rfl (fun ls hl => ?_)
              obtain ⟨y106, ey107⟩ : ∃ y : Int32, y = i84 + (1) := ⟨_, rfl⟩
              obtain ⟨k108, hk109, b110, b111⟩ := hq_add (i84) (1)
              rw [← ey107] at hk109 b110 b111
              have hk109 : (y106).toInt = (i84).toInt + (1) + k108 * 4294967296 := hk109
              obtain rfl : k108 = 0 := by omega
              refine lv_iinc (v := y106) (lv' := [(4, .int (y106)), (3, .int (y100)), (0, .ref (mo)), (1, .int (k)), (2, .int (a9))]) hx hb dX13_changeAt_109 hl (k := 1) rfl (by rw [ey107]; rfl) (by decide) rfl (fun ls hl => ?_)
              refine lv_goto (tgt := 84) hx hb dX13_changeAt_112 (by decide) ?_
              have fx112 : V93 (mo) = some (.inr (13, hm_o q (m_tp) (m_sz) (m_fr) (m_bh) (m_hd) (m_ft) (m_fa) (m_le) (m_fo) (m_as) (m_fd) (m_bc) (m_bg) (m_bs) (m_be) (m_b0) (m_b1) (m_cm) (m_hc))) := (o95 (mo) (hq_tne hmo (hr_22 hR) (by simp))).trans (ho46)
              have fx113 : V93 (q + 21) = some (.inl (cs 0, 276, .inl (wf))) := (o95 (q + 21) (hq_ne q 21 22 (by decide))).trans (ho47)
              have pk114 := pk49.keep (fun x7 (hx7 : q ≤ x7 ∧ x7 < q + 19) => o95 x7 (by omega))
              exact ih84 _ (by omega) _ _ _ ls (y100) (y106) (g96) rfl hZ hP fx112 fx113 fx98 (fun x8 hne0 hne1 hne2 => (o95 x8 hne2).trans (fr84 x8 hne0 hne1 hne2)) pk114 (by omega) (by omega) (by omega) (fun j x hj hx => by rw [ge97]; have h8 := (hq_nn (z := no84) (by omega)).1; by_cases c9 : (j : Int) < no84.toInt; (· rw [hm_un (by omega)]; exact hsp84 j x c9 hx); (· obtain rfl : j = no84.toNatClampNeg := (by omega); rw [hm_ue]; have h7 : (sp_cg F S u a9.toInt.toNat)[no84.toNatClampNeg]? = some (y90).toInt := (by rw [show no84.toNatClampNeg = S.length + (i84).toInt.toNat - F.length by omega, sp_cg_3 (by omega) (by omega)]; exact hvx); cases h7.symm.trans hx; exact hx_n8 (hub _ _ hvx))) (lv_sub hl [0, 1, 2, 3, 4] rfl)
        · have c31 : ¬ (y27).toInt ≤ (i36).toInt := fun h9 => c31 (hq_lei.mpr h9)
          refine lv_aload_n hx hb dX13_changeAt_47 rfl (lv_at hl 2 rfl) ?_
          refine hp_get (v := .ref (q + 22)) hx hb hts hown hZ ho13 fl_X13_216 rfl dX13_changeAt_48 ?_
          refine lv_iload_n hx hb dX13_changeAt_51 rfl (lv_at hl 1 rfl) ?_
          refine lv_aload_n hx hb dX13_changeAt_52 rfl (lv_at hl 2 rfl) ?_
          refine hp_get (v := .ref (q + 6)) hx hb hts hown hZ ho13 fl_X13_26 rfl dX13_changeAt_53 ?_
          refine lv_bipush (v := 8) hx hb dX13_changeAt_56 (by decide) ?_
          refine lv_iload_n hx hb dX13_changeAt_58 rfl (lv_at hl 3 rfl) ?_
          refine lv_imul hx hb dX13_changeAt_59 ?_
          refine lv_topi (fun y115 ey116 => ?_)
          obtain ⟨k117, hk118, b119, b120⟩ := hq_mul (8) (k)
          rw [← ey116] at hk118 b119 b120
          have hk118 : (y115).toInt = (8 : Int) * (k).toInt + k117 * 4294967296 := hk118
          obtain rfl : k117 = 0 := by omega
          refine lv_iload hx hb dX13_changeAt_60 (lv_at hl 0 rfl) ?_
          refine lv_iadd hx hb dX13_changeAt_62 ?_
          refine lv_topi (fun y121 ey122 => ?_)
          obtain ⟨k123, hk124, b125, b126⟩ := hq_add (y115) (i36)
          rw [← ey122] at hk124 b125 b126
          have hk124 : (y121).toInt = (y115).toInt + (i36).toInt + k123 * 4294967296 := hk124
          obtain rfl : k123 = 0 := by omega
          obtain ⟨rf127, hrf128⟩ : ∃ f : Nat → Int32, f = rh 6 := ⟨_, rfl⟩
          have ea129 : V9 (q + 6) = some (.inl (cs 0, 960, .inl (rf127))) := by rw [hrf128]; exact pk16 6 (by decide)
          refine hp_bald hx hb hZ ea129 (hq_in (by omega) (by omega)) dX13_changeAt_63 ?_
          refine lv_topi (fun y131 ey132 => ?_)
          have b133 := hq_rng y131
          have hvn := (hq_nn (z := y121) (by omega)).1
          have hkn := (hq_nn (z := k) (by omega)).1
          obtain ⟨x9, hx9⟩ : ∃ x, S[(i36).toInt.toNat]? = some x := ⟨_, List.getElem?_eq_getElem (by omega)⟩
          have hvx : S[(i36).toInt.toNat]? = some (y131).toInt := by rw [hx9, ey132, hrf128, show (y121 : Int32).toNatClampNeg = 8 * (k).toNatClampNeg + (i36).toInt.toNat by omega, hST.2.2 _ _ hx9]
          refine hp_bast hx hb hZ ho15 (hq_in (by omega) (by omega)) dX13_changeAt_64 (fun V134 _ _ e135 o136 hZ => ?_)
          have e135 : V134 (q + 22) = some (.inl (cs 0, 276, .inl (upd (sp36) ((no36 : Int32).toNatClampNeg) ((y131 : Int32).toInt8.toInt32)))) := e135
          have hP := hP.put (hr_22 hR) e135 o136 (hq_c20 (by omega)) rfl
          obtain ⟨g137, ge138⟩ : ∃ g9 : Nat → Int32, g9 = upd (sp36) ((no36 : Int32).toNatClampNeg) ((y131 : Int32).toInt8.toInt32) := ⟨_, rfl⟩
          have fx139 : V134 (q + 22) = some (.inl (cs 0, 276, .inl (g137))) := by rw [ge138]; exact e135
          have hf140 := hq_rg20 hP.1 (hr_22 hR) fx139
          obtain ⟨y141, ey142⟩ : ∃ y : Int32, y = no36 + (1) := ⟨_, rfl⟩
          obtain ⟨k143, hk144, b145, b146⟩ := hq_add (no36) (1)
          rw [← ey142] at hk144 b145 b146
          have hk144 : (y141).toInt = (no36).toInt + (1) + k143 * 4294967296 := hk144
          obtain rfl : k143 = 0 := by omega
          refine lv_iinc (v := y141) (lv' := [(3, .int (y141)), (4, .int (i36)), (0, .ref (mo)), (1, .int (k)), (2, .int (a9))]) hx hb dX13_changeAt_65 hl (k := 1) rfl (by rw [ey142]; rfl) (by decide) rfl (fun ls hl => ?_)
          obtain ⟨y147, ey148⟩ : ∃ y : Int32, y = i36 + (1) := ⟨_, rfl⟩
          obtain ⟨k149, hk150, b151, b152⟩ := hq_add (i36) (1)
          rw [← ey148] at hk150 b151 b152
          have hk150 : (y147).toInt = (i36).toInt + (1) + k149 * 4294967296 := hk150
          obtain rfl : k149 = 0 := by omega
          refine lv_iinc (v := y147) (lv' := [(4, .int (y147)), (3, .int (y141)), (0, .ref (mo)), (1, .int (k)), (2, .int (a9))]) hx hb dX13_changeAt_68 hl (k := 1) rfl (by rw [ey148]; rfl) (by decide) rfl (fun ls hl => ?_)
          refine lv_goto (tgt := 36) hx hb dX13_changeAt_71 (by decide) ?_
          have fx153 : V134 (mo) = some (.inr (13, hm_o q (m_tp) (m_sz) (m_fr) (m_bh) (m_hd) (m_ft) (m_fa) (m_le) (m_fo) (m_as) (m_fd) (m_bc) (m_bg) (m_bs) (m_be) (m_b0) (m_b1) (m_cm) (m_hc))) := (o136 (mo) (hq_tne hmo (hr_22 hR) (by simp))).trans (ho13)
          have fx154 : V134 (q + 21) = some (.inl (cs 0, 276, .inl (wf))) := (o136 (q + 21) (hq_ne q 21 22 (by decide))).trans (ho14)
          have pk155 := pk16.keep (fun x7 (hx7 : q ≤ x7 ∧ x7 < q + 19) => o136 x7 (by omega))
          exact ih36 _ (by omega) _ _ _ ls (y141) (y147) (g137) rfl hZ hP fx153 fx154 fx139 (fun x8 hne0 hne1 hne2 => (o136 x8 hne2).trans (fr36 x8 hne0 hne1 hne2)) pk155 (by omega) (by omega) (by omega) (fun j x hj hx => by rw [ge138]; have h8 := (hq_nn (z := no36) (by omega)).1; by_cases c9 : (j : Int) < no36.toInt; (· rw [hm_un (by omega)]; exact hsp36 j x c9 hx); (· obtain rfl : j = no36.toNatClampNeg := (by omega); rw [hm_ue]; have h7 : (sp_cg F S u a9.toInt.toNat)[no36.toNatClampNeg]? = some (y131).toInt := (by rw [show no36.toNatClampNeg = a9.toInt.toNat + (i36).toInt.toNat by omega, sp_cg_2 (by omega) (by omega)]; exact hvx); cases h7.symm.trans hx; exact hx_n8 (hSb _ _ hvx))) (lv_sub hl [0, 1, 2, 3, 4] rfl)
    · have c12 : ¬ (a9).toInt ≤ (i5).toInt := fun h9 => c12 (hq_lei.mpr h9)
      refine lv_aload_n hx hb dX13_changeAt_11 rfl (lv_at hl 2 rfl) ?_
      refine hp_get (v := .ref (q + 22)) hx hb hts hown hZ ho1 fl_X13_216 rfl dX13_changeAt_12 ?_
      refine lv_iload_n hx hb dX13_changeAt_15 rfl (lv_at hl 1 rfl) ?_
      refine lv_aload_n hx hb dX13_changeAt_16 rfl (lv_at hl 2 rfl) ?_
      refine hp_get (v := .ref (q + 21)) hx hb hts hown hZ ho1 fl_X13_213 rfl dX13_changeAt_17 ?_
      refine lv_iload hx hb dX13_changeAt_20 (lv_at hl 0 rfl) ?_
      refine hp_bald hx hb hZ ho2 (hq_in (by omega) (by omega)) dX13_changeAt_22 ?_
      refine lv_topi (fun y156 ey157 => ?_)
      have b158 := hq_rng y156
      have hvn := (hq_nn (z := i5) (by omega)).1
      have hvx : u[i5.toInt.toNat]? = some (y156).toInt := by rw [hu.nth (by omega), ey157, show (i5 : Int32).toNatClampNeg = i5.toInt.toNat by omega]
      refine hp_bast hx hb hZ ho3 (hq_in (by omega) (by omega)) dX13_changeAt_23 (fun V159 _ _ e160 o161 hZ => ?_)
      have e160 : V159 (q + 22) = some (.inl (cs 0, 276, .inl (upd (sp5) ((no5 : Int32).toNatClampNeg) ((y156 : Int32).toInt8.toInt32)))) := e160
      have hP := hP.put (hr_22 hR) e160 o161 (hq_c20 (by omega)) rfl
      obtain ⟨g162, ge163⟩ : ∃ g9 : Nat → Int32, g9 = upd (sp5) ((no5 : Int32).toNatClampNeg) ((y156 : Int32).toInt8.toInt32) := ⟨_, rfl⟩
      have fx164 : V159 (q + 22) = some (.inl (cs 0, 276, .inl (g162))) := by rw [ge163]; exact e160
      have hf165 := hq_rg20 hP.1 (hr_22 hR) fx164
      obtain ⟨y166, ey167⟩ : ∃ y : Int32, y = no5 + (1) := ⟨_, rfl⟩
      obtain ⟨k168, hk169, b170, b171⟩ := hq_add (no5) (1)
      rw [← ey167] at hk169 b170 b171
      have hk169 : (y166).toInt = (no5).toInt + (1) + k168 * 4294967296 := hk169
      obtain rfl : k168 = 0 := by omega
      refine lv_iinc (v := y166) (lv' := [(3, .int (y166)), (4, .int (i5)), (0, .ref (mo)), (1, .int (k)), (2, .int (a9))]) hx hb dX13_changeAt_24 hl (k := 1) rfl (by rw [ey167]; rfl) (by decide) rfl (fun ls hl => ?_)
      obtain ⟨y172, ey173⟩ : ∃ y : Int32, y = i5 + (1) := ⟨_, rfl⟩
      obtain ⟨k174, hk175, b176, b177⟩ := hq_add (i5) (1)
      rw [← ey173] at hk175 b176 b177
      have hk175 : (y172).toInt = (i5).toInt + (1) + k174 * 4294967296 := hk175
      obtain rfl : k174 = 0 := by omega
      refine lv_iinc (v := y172) (lv' := [(4, .int (y172)), (3, .int (y166)), (0, .ref (mo)), (1, .int (k)), (2, .int (a9))]) hx hb dX13_changeAt_27 hl (k := 1) rfl (by rw [ey173]; rfl) (by decide) rfl (fun ls hl => ?_)
      refine lv_goto (tgt := 5) hx hb dX13_changeAt_30 (by decide) ?_
      have fx178 : V159 (mo) = some (.inr (13, hm_o q (m_tp) (m_sz) (m_fr) (m_bh) (m_hd) (m_ft) (m_fa) (m_le) (m_fo) (m_as) (m_fd) (m_bc) (m_bg) (m_bs) (m_be) (m_b0) (m_b1) (m_cm) (m_hc))) := (o161 (mo) (hq_tne hmo (hr_22 hR) (by simp))).trans (ho1)
      have fx179 : V159 (q + 21) = some (.inl (cs 0, 276, .inl (wf))) := (o161 (q + 21) (hq_ne q 21 22 (by decide))).trans (ho2)
      have pk180 := pk4.keep (fun x7 (hx7 : q ≤ x7 ∧ x7 < q + 19) => o161 x7 (by omega))
      exact ih5 _ (by omega) _ _ _ ls (y166) (y172) (g162) rfl hZ hP fx178 fx179 fx164 (fun x8 hne0 hne1 hne2 => (o161 x8 hne2).trans (fr5 x8 hne0 hne1 hne2)) pk180 (by omega) (by omega) (by omega) (fun j x hj hx => by rw [ge163]; have h8 := (hq_nn (z := no5) (by omega)).1; by_cases c9 : (j : Int) < no5.toInt; (· rw [hm_un (by omega)]; exact hsp5 j x c9 hx); (· obtain rfl : j = no5.toNatClampNeg := (by omega); rw [hm_ue]; have h7 : (sp_cg F S u a9.toInt.toNat)[no5.toNatClampNeg]? = some (y156).toInt := (by rw [show no5.toNatClampNeg = (i5).toInt.toNat by omega, sp_cg_1 (by omega) (by omega)]; exact hvx); cases h7.symm.trans hx; exact hx_n8 (hub _ _ hvx))) (lv_sub hl [0, 1, 2, 3, 4] rfl)

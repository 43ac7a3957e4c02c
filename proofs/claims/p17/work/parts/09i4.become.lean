set_option maxHeartbeats 4000000 in
set_option maxRecDepth 100000 in
theorem y_become (l : Launch) (D : va_G) (cs : Nat → ClassId) (B : Nat) (G : hq_G) (V : hp_V) (n : Nat) (hI : hq_I cs G V) (q : Nat) (mo : Nat) (w : sp_W) (rh : hm_Rh) (bk : sp_B) (m_tp : Int32) (m_sz : Int32) (m_fr : Int32) (m_bh : Int32) (m_hd : Int32) (m_ft : Int32) (m_fa : Int32) (m_le : Int32) (m_fo : Int32) (m_as : Int32) (m_fd : Int32) (m_bc : Int32) (m_bg : Int32) (m_bs : Int32) (m_be : Int32) (m_b0 : Int32) (m_b1 : Int32) (m_cm : Int32) (m_hc : Int32) (hc0 : V (mo) = some (.inr (13, hm_o q (m_tp) (m_sz) (m_fr) (m_bh) (m_hd) (m_ft) (m_fa) (m_le) (m_fo) (m_as) (m_fd) (m_bc) (m_bg) (m_bs) (m_be) (m_b0) (m_b1) (m_cm) (m_hc)))) (hp0 : hm_AR cs V q rh) (hR : hq_RT G q) (hmo : G mo = some (24, 0, 0, 0)) (hmq : mo < q) (hDB : hm_BK rh 1 w bk) (hoc : sp_okc w) : hp_M l yX13_become cX13_become 2 none ({ frames := 1, cells := 0, slots := 0, locals := 21 }) D cs B V n [.ref (mo)] (hp_QV D cs B (fun V' n' => n = n' ∧ hq_P cs G (fun _ => true) V V' ∧ (∀ x, (x < q ∨ q + 19 ≤ x) → V' x = V x) ∧ (∃ rh1 : hm_Rh, (hm_BK rh1 0 w bk) ∧ (hm_AR cs V' q rh1)))) 0 0 := by
  refine hp_walk (R0 := RX13) (by decide) rfl ?_ (Nat.le_of_ble_eq_true rfl)
  intro p e s m below meth c ls hx hb hr hts hown hlocks hin hml hZ hl
  have hP : hq_P cs G (fun _ => true) V V := hq_P.rf hI
  have hl : lv_has ls 2 [(0, .ref (mo))] := hl
  have hb_m_tp := hq_rng m_tp
  have hb_m_sz := hq_rng m_sz
  have hb_m_fr := hq_rng m_fr
  have hb_m_bh := hq_rng m_bh
  have hb_m_hd := hq_rng m_hd
  have hb_m_ft := hq_rng m_ft
  have hb_m_fa := hq_rng m_fa
  have hb_m_le := hq_rng m_le
  have hb_m_fo := hq_rng m_fo
  have hb_m_as := hq_rng m_as
  have hb_m_fd := hq_rng m_fd
  have hb_m_bc := hq_rng m_bc
  have hb_m_bg := hq_rng m_bg
  have hb_m_bs := hq_rng m_bs
  have hb_m_be := hq_rng m_be
  have hb_m_b0 := hq_rng m_b0
  have hb_m_b1 := hq_rng m_b1
  have hb_m_cm := hq_rng m_cm
  have hb_m_hc := hq_rng m_hc
  have hH0 : hm_H rh rh := hm_H.rf
  have hdr0 : hm_Dr rh rh := hm_Dr.rf
  clear hb_m_tp hb_m_sz hb_m_fr hb_m_bh hb_m_hd hb_m_ft hb_m_fa hb_m_le hb_m_fo hb_m_as hb_m_fd hb_m_bc hb_m_bg hb_m_bs hb_m_be hb_m_b0 hb_m_b1 hb_m_cm hb_m_hc
  refine lv_aload_n hx hb dX13_become_0 rfl (lv_at hl 0 rfl) ?_
  refine hp_get (v := .ref (q)) hx hb hts hown hZ hc0 fl_X13_1 rfl dX13_become_1 ?_
  refine lv_iconst (v := 0) hx hb dX13_become_4 (by decide) ?_
  refine lv_aload_n hx hb dX13_become_5 rfl (lv_at hl 0 rfl) ?_
  refine hp_get (v := .ref (q)) hx hb hts hown hZ hc0 fl_X13_1 rfl dX13_become_6 ?_
  refine lv_iconst (v := 1) hx hb dX13_become_9 (by decide) ?_
  obtain ⟨rf1, hrf2⟩ : ∃ f : Nat → Int32, f = rh 0 := ⟨_, rfl⟩
  have ea3 : V (q) = some (.inl (cs 1, 2, .inl (rf1))) := by rw [hrf2]; exact hp0 0 (by decide)
  have hra4 := hq_rg hP.1 (hr_0 hR) ea3
  refine hp_iald hx hb hZ ea3 (by unfold vp_in; decide) dX13_become_10 ?_
  refine lv_topi (fun y5 ey6 => ?_)
  have b7 : hq_ir (hq_lo 11) (hq_hi 11) y5 := by rw [ey6]; exact hra4 _ (by decide)
  have b7 : 0 ≤ (y5).toInt ∧ (y5).toInt ≤ 6 := b7
  refine hp_iast hx hb hZ ea3 (by unfold vp_in; decide) dX13_become_11 (fun V8 _ _ e9 o10 hZ => ?_)
  have e9 : V8 (q) = some (.inl (cs 1, 2, .inl (upd (rf1) ((0 : Int32).toNatClampNeg) (y5)))) := e9
  have hP := hP.put (hr_0 hR) e9 o10 (hq_c21 (by omega) (hq_upd hra4 (show 0 ≤ _ ∧ _ ≤ 6 by constructor <;> omega))) rfl
  obtain ⟨g11, ge12⟩ : ∃ g9 : Nat → Int32, g9 = upd (rf1) ((0 : Int32).toNatClampNeg) (y5) := ⟨_, rfl⟩
  have fx13 : V8 (q) = some (.inl (cs 1, 2, .inl (g11))) := by rw [ge12]; exact e9
  have hf14 := hq_rg hP.1 (hr_0 hR) fx13
  obtain ⟨rh15, hrh16⟩ : ∃ r9 : hm_Rh, r9 = hm_u2 rh 0 (0 : Int32).toNatClampNeg ((y5 : Int32)) := ⟨_, rfl⟩
  have pk17 : hm_AR cs V8 q rh15 := by rw [hrh16]; exact hp0.put (a := 0) (by decide) (by rw [ge12, hrf2]) fx13 o10
  have hd18 : hm_Dr rh rh15 := by rw [hrh16]; exact hdr0.put (show (0 : Int32).toNatClampNeg < 1 from by decide)
  have hj20 : (1 : Int32).toNatClampNeg = 1 + 0 := by decide
  have cp19 : hm_C1 0 (0 + 1) rh rh15 := by rw [hrh16]; exact hm_C1.put hm_C1.zero (show (0 : Int32).toNatClampNeg = 0 from by decide) (show y5 = rh 0 (1 + 0) from by rw [ey6, hrf2, hj20])
  have cp21 : hm_C1 1 (0) rh rh15 := by rw [hrh16]; exact hm_C1.ne hm_C1.zero (by decide)
  have cp22 : hm_C1 2 (0) rh rh15 := by rw [hrh16]; exact hm_C1.ne hm_C1.zero (by decide)
  refine lv_aload_n hx hb dX13_become_12 rfl (lv_at hl 0 rfl) ?_
  have fx23 : V8 (mo) = some (.inr (13, hm_o q (m_tp) (m_sz) (m_fr) (m_bh) (m_hd) (m_ft) (m_fa) (m_le) (m_fo) (m_as) (m_fd) (m_bc) (m_bg) (m_bs) (m_be) (m_b0) (m_b1) (m_cm) (m_hc))) := (o10 (mo) (hq_tne hmo (hr_0 hR) (by simp))).trans (hc0)
  refine hp_get (v := .ref (q + 1)) hx hb hts hown hZ fx23 fl_X13_7 rfl dX13_become_13 ?_
  refine lv_iconst (v := 0) hx hb dX13_become_16 (by decide) ?_
  refine lv_aload_n hx hb dX13_become_17 rfl (lv_at hl 0 rfl) ?_
  refine hp_get (v := .ref (q + 1)) hx hb hts hown hZ fx23 fl_X13_7 rfl dX13_become_18 ?_
  refine lv_iconst (v := 1) hx hb dX13_become_21 (by decide) ?_
  obtain ⟨rf24, hrf25⟩ : ∃ f : Nat → Int32, f = rh15 1 := ⟨_, rfl⟩
  have ea26 : V8 (q + 1) = some (.inl (cs 1, 2, .inl (rf24))) := by rw [hrf25]; exact pk17 1 (by decide)
  have hra27 := hq_rg hP.1 (hr_1 hR) ea26
  refine hp_iald hx hb hZ ea26 (by unfold vp_in; decide) dX13_become_22 ?_
  refine lv_topi (fun y28 ey29 => ?_)
  have b30 : hq_ir (hq_lo 9) (hq_hi 9) y28 := by rw [ey29]; exact hra27 _ (by decide)
  have b30 : 0 ≤ (y28).toInt ∧ (y28).toInt ≤ 30 := b30
  refine hp_iast hx hb hZ ea26 (by unfold vp_in; decide) dX13_become_23 (fun V31 _ _ e32 o33 hZ => ?_)
  have e32 : V31 (q + 1) = some (.inl (cs 1, 2, .inl (upd (rf24) ((0 : Int32).toNatClampNeg) (y28)))) := e32
  have hP := hP.put (hr_1 hR) e32 o33 (hq_c21 (by omega) (hq_upd hra27 (show 0 ≤ _ ∧ _ ≤ 30 by constructor <;> omega))) rfl
  obtain ⟨g34, ge35⟩ : ∃ g9 : Nat → Int32, g9 = upd (rf24) ((0 : Int32).toNatClampNeg) (y28) := ⟨_, rfl⟩
  have fx36 : V31 (q + 1) = some (.inl (cs 1, 2, .inl (g34))) := by rw [ge35]; exact e32
  have hf37 := hq_rg hP.1 (hr_1 hR) fx36
  obtain ⟨rh38, hrh39⟩ : ∃ r9 : hm_Rh, r9 = hm_u2 rh15 1 (0 : Int32).toNatClampNeg ((y28 : Int32)) := ⟨_, rfl⟩
  have pk40 : hm_AR cs V31 q rh38 := by rw [hrh39]; exact pk17.put (a := 1) (by decide) (by rw [ge35, hrf25]) fx36 o33
  have hd41 : hm_Dr rh rh38 := by rw [hrh39]; exact hd18.put (show (0 : Int32).toNatClampNeg < 1 from by decide)
  have cp42 : hm_C1 0 (1) rh rh38 := by rw [hrh39]; exact hm_C1.ne cp19 (by decide)
  have hj44 : (1 : Int32).toNatClampNeg = 1 + 0 := by decide
  have cp43 : hm_C1 1 (0 + 1) rh rh38 := by rw [hrh39]; exact hm_C1.put cp21 (show (0 : Int32).toNatClampNeg = 0 from by decide) (show y28 = rh 1 (1 + 0) from by rw [ey29, hrf25, hj44]; exact hd18 1 _ (Nat.le_add_right _ _))
  have cp45 : hm_C1 2 (0) rh rh38 := by rw [hrh39]; exact hm_C1.ne cp22 (by decide)
  refine lv_aload_n hx hb dX13_become_24 rfl (lv_at hl 0 rfl) ?_
  have fx46 : V31 (mo) = some (.inr (13, hm_o q (m_tp) (m_sz) (m_fr) (m_bh) (m_hd) (m_ft) (m_fa) (m_le) (m_fo) (m_as) (m_fd) (m_bc) (m_bg) (m_bs) (m_be) (m_b0) (m_b1) (m_cm) (m_hc))) := (o33 (mo) (hq_tne hmo (hr_1 hR) (by simp))).trans (fx23)
  refine hp_get (v := .ref (q + 2)) hx hb hts hown hZ fx46 fl_X13_10 rfl dX13_become_25 ?_
  refine lv_iconst (v := 0) hx hb dX13_become_28 (by decide) ?_
  refine lv_aload_n hx hb dX13_become_29 rfl (lv_at hl 0 rfl) ?_
  refine hp_get (v := .ref (q + 2)) hx hb hts hown hZ fx46 fl_X13_10 rfl dX13_become_30 ?_
  refine lv_iconst (v := 1) hx hb dX13_become_33 (by decide) ?_
  obtain ⟨rf47, hrf48⟩ : ∃ f : Nat → Int32, f = rh38 2 := ⟨_, rfl⟩
  have ea49 : V31 (q + 2) = some (.inl (cs 1, 2, .inl (rf47))) := by rw [hrf48]; exact pk40 2 (by decide)
  have hra50 := hq_rg hP.1 (hr_2 hR) ea49
  refine hp_iald hx hb hZ ea49 (by unfold vp_in; decide) dX13_become_34 ?_
  refine lv_topi (fun y51 ey52 => ?_)
  have b53 : hq_ir (hq_lo 8) (hq_hi 8) y51 := by rw [ey52]; exact hra50 _ (by decide)
  have b53 : 0 ≤ (y51).toInt ∧ (y51).toInt ≤ 60 := b53
  refine hp_iast hx hb hZ ea49 (by unfold vp_in; decide) dX13_become_35 (fun V54 _ _ e55 o56 hZ => ?_)
  have e55 : V54 (q + 2) = some (.inl (cs 1, 2, .inl (upd (rf47) ((0 : Int32).toNatClampNeg) (y51)))) := e55
  have hP := hP.put (hr_2 hR) e55 o56 (hq_c21 (by omega) (hq_upd hra50 (show 0 ≤ _ ∧ _ ≤ 60 by constructor <;> omega))) rfl
  obtain ⟨g57, ge58⟩ : ∃ g9 : Nat → Int32, g9 = upd (rf47) ((0 : Int32).toNatClampNeg) (y51) := ⟨_, rfl⟩
  have fx59 : V54 (q + 2) = some (.inl (cs 1, 2, .inl (g57))) := by rw [ge58]; exact e55
  have hf60 := hq_rg hP.1 (hr_2 hR) fx59
  obtain ⟨rh61, hrh62⟩ : ∃ r9 : hm_Rh, r9 = hm_u2 rh38 2 (0 : Int32).toNatClampNeg ((y51 : Int32)) := ⟨_, rfl⟩
  have pk63 : hm_AR cs V54 q rh61 := by rw [hrh62]; exact pk40.put (a := 2) (by decide) (by rw [ge58, hrf48]) fx59 o56
  have hd64 : hm_Dr rh rh61 := by rw [hrh62]; exact hd41.put (show (0 : Int32).toNatClampNeg < 1 from by decide)
  have cp65 : hm_C1 0 (1) rh rh61 := by rw [hrh62]; exact hm_C1.ne cp42 (by decide)
  have cp66 : hm_C1 1 (1) rh rh61 := by rw [hrh62]; exact hm_C1.ne cp43 (by decide)
  have hj68 : (1 : Int32).toNatClampNeg = 1 + 0 := by decide
  have cp67 : hm_C1 2 (0 + 1) rh rh61 := by rw [hrh62]; exact hm_C1.put cp45 (show (0 : Int32).toNatClampNeg = 0 from by decide) (show y51 = rh 2 (1 + 0) from by rw [ey52, hrf48, hj68]; exact hd41 2 _ (Nat.le_add_right _ _))
  refine lv_iconst (v := 0) hx hb dX13_become_36 (by decide) ?_
  refine lv_istore_n (lv' := [(1, .int (0)), (0, .ref (mo))]) hx hb dX13_become_37 rfl hl (by decide) rfl (fun ls hl => ?_)
  have fx69 : V54 (mo) = some (.inr (13, hm_o q (m_tp) (m_sz) (m_fr) (m_bh) (m_hd) (m_ft) (m_fa) (m_le) (m_fo) (m_as) (m_fd) (m_bc) (m_bg) (m_bs) (m_be) (m_b0) (m_b1) (m_cm) (m_hc))) := (o56 (mo) (hq_tne hmo (hr_2 hR) (by simp))).trans (fx46)
  have hl72 : (0 : Int32).toInt = 0 := by decide
  suffices lp38 : ∀ (k9 : Nat) (V9 : hp_V) (H9 : Heap) (locs9 : List Loc) (ls : Array Slot) (i38 : Int32) (rh38x : hm_Rh), (1000 - i38.toInt).toNat = k9 → hp_Z D cs B s V9 H9 n locs9 → hq_P cs G (fun _ => true) V V9 → V9 (mo) = some (.inr (13, hm_o q (m_tp) (m_sz) (m_fr) (m_bh) (m_hd) (m_ft) (m_fa) (m_le) (m_fo) (m_as) (m_fd) (m_bc) (m_bg) (m_bs) (m_be) (m_b0) (m_b1) (m_cm) (m_hc))) → (∀ x, (x < q ∨ q + 19 ≤ x) → V9 x = V x) → hm_AR cs V9 q rh38x → (0 ≤ i38.toInt) → (i38.toInt ≤ 30) → (hm_Dr rh rh38x) → (hm_C1 0 (1) rh rh38x) → (hm_C1 1 (1) rh rh38x) → (hm_C1 2 (1) rh rh38x) → (hm_C1 8 ((i38).toNatClampNeg) rh rh38x) → (hm_C1 9 ((i38).toNatClampNeg) rh rh38x) → lv_has ls 2 [(1, .int (i38)), (0, .ref (mo))] → W p l e ({ frames := 1, cells := 0, slots := 0, locals := 21 }) s m ([.ref (mo)] : List Value).toArray below meth c H9 locs9 0 0 (MQ below (hp_QV D cs B (fun V' n' => n = n' ∧ hq_P cs G (fun _ => true) V V' ∧ (∀ x, (x < q ∨ q + 19 ≤ x) → V' x = V x) ∧ (∃ rh1 : hm_Rh, (hm_BK rh1 0 w bk) ∧ (hm_AR cs V' q rh1)))) ([.ref (mo)] : List Value).toArray s 0 0 (hp_F B)) (F0 m 38 ls []) from lp38 _ _ _ _ ls (0) (rh61) rfl hZ hP fx69 (fun x8 hne0 => (o56 x8 (by omega)).trans ((o33 x8 (by omega)).trans (o10 x8 (by omega)))) pk63 (by omega) (by omega) (hd64) (cp65) (cp66) (cp67) (hm_C1.zero) (hm_C1.zero) (lv_sub hl [0, 1] rfl)
  intro k9
  induction k9 using Nat.strongRecOn with
  | _ k9 ih38 =>
    intro V9 H9 locs9 ls i38 rh38x  hk38 hZ hP ho70 fr38 pk71 hi0_38 hi1_38 hdr38 hc0_38 hc1_38 hc2_38 hc8_38 hc9_38 hl
    have hb_i38 := hq_rng i38
    refine lv_iload_n hx hb dX13_become_38 rfl (lv_at hl 0 rfl) ?_
    refine lv_bipush (v := 30) hx hb dX13_become_39 (by decide) ?_
    refine lv_icmp_ge (tgt := 80) hx hb dX13_become_41 (by decide) (fun c73 => ?_) (fun c73 => ?_)
    · have c73 : (30 : Int) ≤ (i38).toInt := hq_lei.mp c73
      refine lv_iconst (v := 0) hx hb dX13_become_80 (by decide) ?_
      refine lv_istore_n (lv' := [(1, .int (0)), (0, .ref (mo))]) hx hb dX13_become_81 rfl hl (by decide) rfl (fun ls hl => ?_)
      have hl76 : (0 : Int32).toInt = 0 := by decide
      suffices lp82 : ∀ (k9 : Nat) (V9 : hp_V) (H9 : Heap) (locs9 : List Loc) (ls : Array Slot) (i82 : Int32) (rh82x : hm_Rh), (1000 - i82.toInt).toNat = k9 → hp_Z D cs B s V9 H9 n locs9 → hq_P cs G (fun _ => true) V V9 → V9 (mo) = some (.inr (13, hm_o q (m_tp) (m_sz) (m_fr) (m_bh) (m_hd) (m_ft) (m_fa) (m_le) (m_fo) (m_as) (m_fd) (m_bc) (m_bg) (m_bs) (m_be) (m_b0) (m_b1) (m_cm) (m_hc))) → (∀ x, (x < q ∨ q + 19 ≤ x) → V9 x = V x) → hm_AR cs V9 q rh82x → (0 ≤ i82.toInt) → (i82.toInt ≤ 360) → (hm_Dr rh rh82x) → (hm_C1 0 (1) rh rh82x) → (hm_C1 1 (1) rh rh82x) → (hm_C1 2 (1) rh rh82x) → (hm_C1 8 (30) rh rh82x) → (hm_C1 9 (30) rh rh82x) → (hm_Cb 4 ((i82).toNatClampNeg) rh rh82x) → lv_has ls 2 [(1, .int (i82)), (0, .ref (mo))] → W p l e ({ frames := 1, cells := 0, slots := 0, locals := 21 }) s m ([.ref (mo)] : List Value).toArray below meth c H9 locs9 0 0 (MQ below (hp_QV D cs B (fun V' n' => n = n' ∧ hq_P cs G (fun _ => true) V V' ∧ (∀ x, (x < q ∨ q + 19 ≤ x) → V' x = V x) ∧ (∃ rh1 : hm_Rh, (hm_BK rh1 0 w bk) ∧ (hm_AR cs V' q rh1)))) ([.ref (mo)] : List Value).toArray s 0 0 (hp_F B)) (F0 m 82 ls []) from lp82 _ _ _ _ ls (0) (rh38x) rfl hZ hP ho70 (fun x8 hne0 => fr38 x8 hne0) pk71 (by omega) (by omega) (hdr38) (hc0_38) (hc1_38) (hc2_38) ((hc8_38.le (show 30 ≤ (i38).toNatClampNeg from by have h8 := (hq_nn (z := i38) hi0_38).1; omega))) ((hc9_38.le (show 30 ≤ (i38).toNatClampNeg from by have h8 := (hq_nn (z := i38) hi0_38).1; omega))) (hm_Cb.zero) (lv_sub hl [0, 1] rfl)
      intro k9
      induction k9 using Nat.strongRecOn with
      | _ k9 ih82 =>
        intro V9 H9 locs9 ls i82 rh82x  hk82 hZ hP ho74 fr82 pk75 hi0_82 hi1_82 hdr82 hc0_82 hc1_82 hc2_82 hc8_82 hc9_82 hc4_82 hl
        have hb_i82 := hq_rng i82
        refine lv_iload_n hx hb dX13_become_82 rfl (lv_at hl 0 rfl) ?_
        refine lv_sipush (v := 360) hx hb dX13_become_83 (by decide) ?_
        refine lv_icmp_ge (tgt := 111) hx hb dX13_become_86 (by decide) (fun c77 => ?_) (fun c77 => ?_)
        · have c77 : (360 : Int) ≤ (i82).toInt := hq_lei.mp c77
          refine lv_iconst (v := 0) hx hb dX13_become_111 (by decide) ?_
          refine lv_istore_n (lv' := [(1, .int (0)), (0, .ref (mo))]) hx hb dX13_become_112 rfl hl (by decide) rfl (fun ls hl => ?_)
          have hl80 : (0 : Int32).toInt = 0 := by decide
          suffices lp113 : ∀ (k9 : Nat) (V9 : hp_V) (H9 : Heap) (locs9 : List Loc) (ls : Array Slot) (i113 : Int32) (rh113x : hm_Rh), (1000 - i113.toInt).toNat = k9 → hp_Z D cs B s V9 H9 n locs9 → hq_P cs G (fun _ => true) V V9 → V9 (mo) = some (.inr (13, hm_o q (m_tp) (m_sz) (m_fr) (m_bh) (m_hd) (m_ft) (m_fa) (m_le) (m_fo) (m_as) (m_fd) (m_bc) (m_bg) (m_bs) (m_be) (m_b0) (m_b1) (m_cm) (m_hc))) → (∀ x, (x < q ∨ q + 19 ≤ x) → V9 x = V x) → hm_AR cs V9 q rh113x → (0 ≤ i113.toInt) → (i113.toInt ≤ 480) → (hm_Dr rh rh113x) → (hm_C1 0 (1) rh rh113x) → (hm_C1 1 (1) rh rh113x) → (hm_C1 2 (1) rh rh113x) → (hm_C1 8 (30) rh rh113x) → (hm_C1 9 (30) rh rh113x) → (hm_Cb 4 (360) rh rh113x) → (hm_Cb 5 ((i113).toNatClampNeg) rh rh113x) → (hm_Cb 6 ((i113).toNatClampNeg) rh rh113x) → lv_has ls 2 [(1, .int (i113)), (0, .ref (mo))] → W p l e ({ frames := 1, cells := 0, slots := 0, locals := 21 }) s m ([.ref (mo)] : List Value).toArray below meth c H9 locs9 0 0 (MQ below (hp_QV D cs B (fun V' n' => n = n' ∧ hq_P cs G (fun _ => true) V V' ∧ (∀ x, (x < q ∨ q + 19 ≤ x) → V' x = V x) ∧ (∃ rh1 : hm_Rh, (hm_BK rh1 0 w bk) ∧ (hm_AR cs V' q rh1)))) ([.ref (mo)] : List Value).toArray s 0 0 (hp_F B)) (F0 m 113 ls []) from lp113 _ _ _ _ ls (0) (rh82x) rfl hZ hP ho74 (fun x8 hne0 => fr82 x8 hne0) pk75 (by omega) (by omega) (hdr82) (hc0_82) (hc1_82) (hc2_82) (hc8_82) (hc9_82) ((hc4_82.le (show 360 ≤ (i82).toNatClampNeg from by have h8 := (hq_nn (z := i82) hi0_82).1; omega))) (hm_Cb.zero) (hm_Cb.zero) (lv_sub hl [0, 1] rfl)
          intro k9
          induction k9 using Nat.strongRecOn with
          | _ k9 ih113 =>
            intro V9 H9 locs9 ls i113 rh113x  hk113 hZ hP ho78 fr113 pk79 hi0_113 hi1_113 hdr113 hc0_113 hc1_113 hc2_113 hc8_113 hc9_113 hc4_113 hc5_113 hc6_113 hl
            have hb_i113 := hq_rng i113
            refine lv_iload_n hx hb dX13_become_113 rfl (lv_at hl 0 rfl) ?_
            refine lv_sipush (v := 480) hx hb dX13_become_114 (by decide) ?_
            refine lv_icmp_ge (tgt := 158) hx hb dX13_become_117 (by decide) (fun c81 => ?_) (fun c81 => ?_)
            · have c81 : (480 : Int) ≤ (i113).toInt := hq_lei.mp c81
              refine lv_iconst (v := 0) hx hb dX13_become_158 (by decide) ?_
              refine lv_istore_n (lv' := [(1, .int (0)), (0, .ref (mo))]) hx hb dX13_become_159 rfl hl (by decide) rfl (fun ls hl => ?_)
              have hl84 : (0 : Int32).toInt = 0 := by decide
              suffices lp160 : ∀ (k9 : Nat) (V9 : hp_V) (H9 : Heap) (locs9 : List Loc) (ls : Array Slot) (i160 : Int32) (rh160x : hm_Rh), (1000 - i160.toInt).toNat = k9 → hp_Z D cs B s V9 H9 n locs9 → hq_P cs G (fun _ => true) V V9 → V9 (mo) = some (.inr (13, hm_o q (m_tp) (m_sz) (m_fr) (m_bh) (m_hd) (m_ft) (m_fa) (m_le) (m_fo) (m_as) (m_fd) (m_bc) (m_bg) (m_bs) (m_be) (m_b0) (m_b1) (m_cm) (m_hc))) → (∀ x, (x < q ∨ q + 19 ≤ x) → V9 x = V x) → hm_AR cs V9 q rh160x → (0 ≤ i160.toInt) → (i160.toInt ≤ 60) → (hm_Dr rh rh160x) → (hm_C1 0 (1) rh rh160x) → (hm_C1 1 (1) rh rh160x) → (hm_C1 2 (1) rh rh160x) → (hm_C1 8 (30) rh rh160x) → (hm_C1 9 (30) rh rh160x) → (hm_Cb 4 (360) rh rh160x) → (hm_Cb 5 (480) rh rh160x) → (hm_Cb 6 (480) rh rh160x) → (hm_C1 10 ((i160).toNatClampNeg) rh rh160x) → (hm_C1 11 ((i160).toNatClampNeg) rh rh160x) → (hm_C1 12 ((i160).toNatClampNeg) rh rh160x) → (hm_C1 13 ((i160).toNatClampNeg) rh rh160x) → (hm_C1 14 ((i160).toNatClampNeg) rh rh160x) → (hm_C1 15 ((i160).toNatClampNeg) rh rh160x) → (hm_C1 16 ((i160).toNatClampNeg) rh rh160x) → lv_has ls 2 [(1, .int (i160)), (0, .ref (mo))] → W p l e ({ frames := 1, cells := 0, slots := 0, locals := 21 }) s m ([.ref (mo)] : List Value).toArray below meth c H9 locs9 0 0 (MQ below (hp_QV D cs B (fun V' n' => n = n' ∧ hq_P cs G (fun _ => true) V V' ∧ (∀ x, (x < q ∨ q + 19 ≤ x) → V' x = V x) ∧ (∃ rh1 : hm_Rh, (hm_BK rh1 0 w bk) ∧ (hm_AR cs V' q rh1)))) ([.ref (mo)] : List Value).toArray s 0 0 (hp_F B)) (F0 m 160 ls []) from lp160 _ _ _ _ ls (0) (rh113x) rfl hZ hP ho78 (fun x8 hne0 => fr113 x8 hne0) pk79 (by omega) (by omega) (hdr113) (hc0_113) (hc1_113) (hc2_113) (hc8_113) (hc9_113) (hc4_113) ((hc5_113.le (show 480 ≤ (i113).toNatClampNeg from by have h8 := (hq_nn (z := i113) hi0_113).1; omega))) ((hc6_113.le (show 480 ≤ (i113).toNatClampNeg from by have h8 := (hq_nn (z := i113) hi0_113).1; omega))) (hm_C1.zero) (hm_C1.zero) (hm_C1.zero) (hm_C1.zero) (hm_C1.zero) (hm_C1.zero) (hm_C1.zero) (lv_sub hl [0, 1] rfl)
              intro k9
              induction k9 using Nat.strongRecOn with
              | _ k9 ih160 =>
                intro V9 H9 locs9 ls i160 rh160x  hk160 hZ hP ho82 fr160 pk83 hi0_160 hi1_160 hdr160 hc0_160 hc1_160 hc2_160 hc8_160 hc9_160 hc4_160 hc5_160 hc6_160 hc10_160 hc11_160 hc12_160 hc13_160 hc14_160 hc15_160 hc16_160 hl
                have hb_i160 := hq_rng i160
                refine lv_iload_n hx hb dX13_become_160 rfl (lv_at hl 0 rfl) ?_
                refine lv_bipush (v := 60) hx hb dX13_become_161 (by decide) ?_
                refine lv_icmp_ge (tgt := 307) hx hb dX13_become_163 (by decide) (fun c85 => ?_) (fun c85 => ?_)
                · have c85 : (60 : Int) ≤ (i160).toInt := hq_lei.mp c85
                  exact hp_vret hx hb hr hlocks hZ ⟨rfl, hP, (fun x8 hne0 => fr160 x8 hne0), rh160x, hDB.become hoc hc0_160 hc1_160 hc2_160 hc8_160 hc9_160 hc4_160 hc5_160 hc6_160 (hc10_160.le (show 60 ≤ (i160).toNatClampNeg from by have h8 := (hq_nn (z := i160) hi0_160).1; omega)) (hc11_160.le (show 60 ≤ (i160).toNatClampNeg from by have h8 := (hq_nn (z := i160) hi0_160).1; omega)) (hc12_160.le (show 60 ≤ (i160).toNatClampNeg from by have h8 := (hq_nn (z := i160) hi0_160).1; omega)) (hc13_160.le (show 60 ≤ (i160).toNatClampNeg from by have h8 := (hq_nn (z := i160) hi0_160).1; omega)) (hc14_160.le (show 60 ≤ (i160).toNatClampNeg from by have h8 := (hq_nn (z := i160) hi0_160).1; omega)) (hc15_160.le (show 60 ≤ (i160).toNatClampNeg from by have h8 := (hq_nn (z := i160) hi0_160).1; omega)) (hc16_160.le (show 60 ≤ (i160).toNatClampNeg from by have h8 := (hq_nn (z := i160) hi0_160).1; omega)), pk83⟩ dX13_become_307
                · have c85 : ¬ (60 : Int) ≤ (i160).toInt := fun h9 => c85 (hq_lei.mpr h9)
                  refine lv_aload_n hx hb dX13_become_166 rfl (lv_at hl 1 rfl) ?_
                  refine hp_get (v := .ref (q + 10)) hx hb hts hown hZ ho82 fl_X13_29 rfl dX13_become_167 ?_
                  refine lv_iload_n hx hb dX13_become_170 rfl (lv_at hl 0 rfl) ?_
                  refine lv_aload_n hx hb dX13_become_171 rfl (lv_at hl 1 rfl) ?_
                  refine hp_get (v := .ref (q + 10)) hx hb hts hown hZ ho82 fl_X13_29 rfl dX13_become_172 ?_
                  refine lv_bipush (v := 60) hx hb dX13_become_175 (by decide) ?_
                  refine lv_iload_n hx hb dX13_become_177 rfl (lv_at hl 0 rfl) ?_
                  refine lv_iadd hx hb dX13_become_178 ?_
                  refine lv_topi (fun y86 ey87 => ?_)
                  obtain ⟨k88, hk89, b90, b91⟩ := hq_add (60) (i160)
                  rw [← ey87] at hk89 b90 b91
                  have hk89 : (y86).toInt = (60 : Int) + (i160).toInt + k88 * 4294967296 := hk89
                  obtain rfl : k88 = 0 := by omega
                  obtain ⟨rf92, hrf93⟩ : ∃ f : Nat → Int32, f = rh160x 10 := ⟨_, rfl⟩
                  have ea94 : V9 (q + 10) = some (.inl (cs 1, 120, .inl (rf92))) := by rw [hrf93]; exact pk83 10 (by decide)
                  have hra95 := hq_rg hP.1 (hr_10 hR) ea94
                  refine hp_iald hx hb hZ ea94 (hq_in (by omega) (by omega)) dX13_become_179 ?_
                  refine lv_topi (fun y96 ey97 => ?_)
                  have b98 := hq_rng y96
                  refine hp_iast hx hb hZ ea94 (hq_in (by omega) (by omega)) dX13_become_180 (fun V99 _ _ e100 o101 hZ => ?_)
                  have e100 : V99 (q + 10) = some (.inl (cs 1, 120, .inl (upd (rf92) ((i160 : Int32).toNatClampNeg) (y96)))) := e100
                  have hP := hP.put (hr_10 hR) e100 o101 (hq_c21 (by omega) (hq_upd hra95 (hq_rng _))) rfl
                  obtain ⟨g102, ge103⟩ : ∃ g9 : Nat → Int32, g9 = upd (rf92) ((i160 : Int32).toNatClampNeg) (y96) := ⟨_, rfl⟩
                  have fx104 : V99 (q + 10) = some (.inl (cs 1, 120, .inl (g102))) := by rw [ge103]; exact e100
                  have hf105 := hq_rg hP.1 (hr_10 hR) fx104
                  obtain ⟨rh106, hrh107⟩ : ∃ r9 : hm_Rh, r9 = hm_u2 rh160x 10 (i160 : Int32).toNatClampNeg ((y96 : Int32)) := ⟨_, rfl⟩
                  have pk108 : hm_AR cs V99 q rh106 := by rw [hrh107]; exact pk83.put (a := 10) (by decide) (by rw [ge103, hrf93]) fx104 o101
                  have hd109 : hm_Dr rh rh106 := by rw [hrh107]; exact hdr160.put (show (i160 : Int32).toNatClampNeg < 60 from hm_lx hi0_160 c85 rfl)
                  have cp110 : hm_C1 0 (1) rh rh106 := by rw [hrh107]; exact hm_C1.ne hc0_160 (by decide)
                  have cp111 : hm_C1 1 (1) rh rh106 := by rw [hrh107]; exact hm_C1.ne hc1_160 (by decide)
                  have cp112 : hm_C1 2 (1) rh rh106 := by rw [hrh107]; exact hm_C1.ne hc2_160 (by decide)
                  have cp113 : hm_C1 8 (30) rh rh106 := by rw [hrh107]; exact hm_C1.ne hc8_160 (by decide)
                  have cp114 : hm_C1 9 (30) rh rh106 := by rw [hrh107]; exact hm_C1.ne hc9_160 (by decide)
                  have cp115 : hm_Cb 4 (360) rh rh106 := by rw [hrh107]; exact hm_Cb.ne hc4_160 (by decide)
                  have cp116 : hm_Cb 5 (480) rh rh106 := by rw [hrh107]; exact hm_Cb.ne hc5_160 (by decide)
                  have cp117 : hm_Cb 6 (480) rh rh106 := by rw [hrh107]; exact hm_Cb.ne hc6_160 (by decide)
                  have hj119 : (y86 : Int32).toNatClampNeg = 60 + (i160).toNatClampNeg := hm_jx hi0_160 hk89 rfl
                  have cp118 : hm_C1 10 ((i160).toNatClampNeg + 1) rh rh106 := by rw [hrh107]; exact hm_C1.put hc10_160 (show (i160 : Int32).toNatClampNeg = (i160).toNatClampNeg from rfl) (show y96 = rh 10 (60 + (i160).toNatClampNeg) from by rw [ey97, hrf93, hj119]; exact hdr160 10 _ (Nat.le_add_right _ _))
                  have cp120 : hm_C1 11 ((i160).toNatClampNeg) rh rh106 := by rw [hrh107]; exact hm_C1.ne hc11_160 (by decide)
                  have cp121 : hm_C1 12 ((i160).toNatClampNeg) rh rh106 := by rw [hrh107]; exact hm_C1.ne hc12_160 (by decide)
                  have cp122 : hm_C1 13 ((i160).toNatClampNeg) rh rh106 := by rw [hrh107]; exact hm_C1.ne hc13_160 (by decide)
                  have cp123 : hm_C1 14 ((i160).toNatClampNeg) rh rh106 := by rw [hrh107]; exact hm_C1.ne hc14_160 (by decide)
                  have cp124 : hm_C1 15 ((i160).toNatClampNeg) rh rh106 := by rw [hrh107]; exact hm_C1.ne hc15_160 (by decide)
                  have cp125 : hm_C1 16 ((i160).toNatClampNeg) rh rh106 := by rw [hrh107]; exact hm_C1.ne hc16_160 (by decide)
                  try clear hk89
                  try clear b90
                  try clear b91
                  try clear b98
                  refine lv_aload_n hx hb dX13_become_181 rfl (lv_at hl 1 rfl) ?_
                  have fx126 : V99 (mo) = some (.inr (13, hm_o q (m_tp) (m_sz) (m_fr) (m_bh) (m_hd) (m_ft) (m_fa) (m_le) (m_fo) (m_as) (m_fd) (m_bc) (m_bg) (m_bs) (m_be) (m_b0) (m_b1) (m_cm) (m_hc))) := (o101 (mo) (hq_tne hmo (hr_10 hR) (by simp))).trans (ho82)
                  refine hp_get (v := .ref (q + 11)) hx hb hts hown hZ fx126 fl_X13_32 rfl dX13_become_182 ?_
                  refine lv_iload_n hx hb dX13_become_185 rfl (lv_at hl 0 rfl) ?_
                  refine lv_aload_n hx hb dX13_become_186 rfl (lv_at hl 1 rfl) ?_
                  refine hp_get (v := .ref (q + 11)) hx hb hts hown hZ fx126 fl_X13_32 rfl dX13_become_187 ?_
                  refine lv_bipush (v := 60) hx hb dX13_become_190 (by decide) ?_
                  refine lv_iload_n hx hb dX13_become_192 rfl (lv_at hl 0 rfl) ?_
                  refine lv_iadd hx hb dX13_become_193 ?_
                  refine lv_topi (fun y127 ey128 => ?_)
                  obtain ⟨k129, hk130, b131, b132⟩ := hq_add (60) (i160)
                  rw [← ey128] at hk130 b131 b132
                  have hk130 : (y127).toInt = (60 : Int) + (i160).toInt + k129 * 4294967296 := hk130
                  obtain rfl : k129 = 0 := by omega
                  obtain ⟨rf133, hrf134⟩ : ∃ f : Nat → Int32, f = rh106 11 := ⟨_, rfl⟩
                  have ea135 : V99 (q + 11) = some (.inl (cs 1, 120, .inl (rf133))) := by rw [hrf134]; exact pk108 11 (by decide)
                  have hra136 := hq_rg hP.1 (hr_11 hR) ea135
                  refine hp_iald hx hb hZ ea135 (hq_in (by omega) (by omega)) dX13_become_194 ?_
                  refine lv_topi (fun y137 ey138 => ?_)
                  have b139 := hq_rng y137
                  refine hp_iast hx hb hZ ea135 (hq_in (by omega) (by omega)) dX13_become_195 (fun V140 _ _ e141 o142 hZ => ?_)
                  have e141 : V140 (q + 11) = some (.inl (cs 1, 120, .inl (upd (rf133) ((i160 : Int32).toNatClampNeg) (y137)))) := e141
                  have hP := hP.put (hr_11 hR) e141 o142 (hq_c21 (by omega) (hq_upd hra136 (hq_rng _))) rfl
                  obtain ⟨g143, ge144⟩ : ∃ g9 : Nat → Int32, g9 = upd (rf133) ((i160 : Int32).toNatClampNeg) (y137) := ⟨_, rfl⟩
                  have fx145 : V140 (q + 11) = some (.inl (cs 1, 120, .inl (g143))) := by rw [ge144]; exact e141
                  have hf146 := hq_rg hP.1 (hr_11 hR) fx145
                  obtain ⟨rh147, hrh148⟩ : ∃ r9 : hm_Rh, r9 = hm_u2 rh106 11 (i160 : Int32).toNatClampNeg ((y137 : Int32)) := ⟨_, rfl⟩
                  have pk149 : hm_AR cs V140 q rh147 := by rw [hrh148]; exact pk108.put (a := 11) (by decide) (by rw [ge144, hrf134]) fx145 o142
                  have hd150 : hm_Dr rh rh147 := by rw [hrh148]; exact hd109.put (show (i160 : Int32).toNatClampNeg < 60 from hm_lx hi0_160 c85 rfl)
                  have cp151 : hm_C1 0 (1) rh rh147 := by rw [hrh148]; exact hm_C1.ne cp110 (by decide)
                  have cp152 : hm_C1 1 (1) rh rh147 := by rw [hrh148]; exact hm_C1.ne cp111 (by decide)
                  have cp153 : hm_C1 2 (1) rh rh147 := by rw [hrh148]; exact hm_C1.ne cp112 (by decide)
                  have cp154 : hm_C1 8 (30) rh rh147 := by rw [hrh148]; exact hm_C1.ne cp113 (by decide)
                  have cp155 : hm_C1 9 (30) rh rh147 := by rw [hrh148]; exact hm_C1.ne cp114 (by decide)
                  have cp156 : hm_Cb 4 (360) rh rh147 := by rw [hrh148]; exact hm_Cb.ne cp115 (by decide)
                  have cp157 : hm_Cb 5 (480) rh rh147 := by rw [hrh148]; exact hm_Cb.ne cp116 (by decide)
                  have cp158 : hm_Cb 6 (480) rh rh147 := by rw [hrh148]; exact hm_Cb.ne cp117 (by decide)
                  have cp159 : hm_C1 10 ((i160).toNatClampNeg + 1) rh rh147 := by rw [hrh148]; exact hm_C1.ne cp118 (by decide)
                  have hj161 : (y127 : Int32).toNatClampNeg = 60 + (i160).toNatClampNeg := hm_jx hi0_160 hk130 rfl
                  have cp160 : hm_C1 11 ((i160).toNatClampNeg + 1) rh rh147 := by rw [hrh148]; exact hm_C1.put cp120 (show (i160 : Int32).toNatClampNeg = (i160).toNatClampNeg from rfl) (show y137 = rh 11 (60 + (i160).toNatClampNeg) from by rw [ey138, hrf134, hj161]; exact hd109 11 _ (Nat.le_add_right _ _))
                  have cp162 : hm_C1 12 ((i160).toNatClampNeg) rh rh147 := by rw [hrh148]; exact hm_C1.ne cp121 (by decide)
                  have cp163 : hm_C1 13 ((i160).toNatClampNeg) rh rh147 := by rw [hrh148]; exact hm_C1.ne cp122 (by decide)
                  have cp164 : hm_C1 14 ((i160).toNatClampNeg) rh rh147 := by rw [hrh148]; exact hm_C1.ne cp123 (by decide)
                  have cp165 : hm_C1 15 ((i160).toNatClampNeg) rh rh147 := by rw [hrh148]; exact hm_C1.ne cp124 (by decide)
                  have cp166 : hm_C1 16 ((i160).toNatClampNeg) rh rh147 := by rw [hrh148]; exact hm_C1.ne cp125 (by decide)
                  try clear hk130
                  try clear b131
                  try clear b132
                  try clear b139
                  refine lv_aload_n hx hb dX13_become_196 rfl (lv_at hl 1 rfl) ?_
                  have fx167 : V140 (mo) = some (.inr (13, hm_o q (m_tp) (m_sz) (m_fr) (m_bh) (m_hd) (m_ft) (m_fa) (m_le) (m_fo) (m_as) (m_fd) (m_bc) (m_bg) (m_bs) (m_be) (m_b0) (m_b1) (m_cm) (m_hc))) := (o142 (mo) (hq_tne hmo (hr_11 hR) (by simp))).trans (fx126)
                  refine hp_get (v := .ref (q + 12)) hx hb hts hown hZ fx167 fl_X13_35 rfl dX13_become_197 ?_
                  refine lv_iload_n hx hb dX13_become_200 rfl (lv_at hl 0 rfl) ?_
                  refine lv_aload_n hx hb dX13_become_201 rfl (lv_at hl 1 rfl) ?_
                  refine hp_get (v := .ref (q + 12)) hx hb hts hown hZ fx167 fl_X13_35 rfl dX13_become_202 ?_
                  refine lv_bipush (v := 60) hx hb dX13_become_205 (by decide) ?_
                  refine lv_iload_n hx hb dX13_become_207 rfl (lv_at hl 0 rfl) ?_
                  refine lv_iadd hx hb dX13_become_208 ?_
                  refine lv_topi (fun y168 ey169 => ?_)
                  obtain ⟨k170, hk171, b172, b173⟩ := hq_add (60) (i160)
                  rw [← ey169] at hk171 b172 b173
                  have hk171 : (y168).toInt = (60 : Int) + (i160).toInt + k170 * 4294967296 := hk171
                  obtain rfl : k170 = 0 := by omega
                  obtain ⟨rf174, hrf175⟩ : ∃ f : Nat → Int32, f = rh147 12 := ⟨_, rfl⟩
                  have ea176 : V140 (q + 12) = some (.inl (cs 1, 120, .inl (rf174))) := by rw [hrf175]; exact pk149 12 (by decide)
                  have hra177 := hq_rg hP.1 (hr_12 hR) ea176
                  refine hp_iald hx hb hZ ea176 (hq_in (by omega) (by omega)) dX13_become_209 ?_
                  refine lv_topi (fun y178 ey179 => ?_)
                  have b180 := hq_rng y178
                  refine hp_iast hx hb hZ ea176 (hq_in (by omega) (by omega)) dX13_become_210 (fun V181 _ _ e182 o183 hZ => ?_)
                  have e182 : V181 (q + 12) = some (.inl (cs 1, 120, .inl (upd (rf174) ((i160 : Int32).toNatClampNeg) (y178)))) := e182
                  have hP := hP.put (hr_12 hR) e182 o183 (hq_c21 (by omega) (hq_upd hra177 (hq_rng _))) rfl
                  obtain ⟨g184, ge185⟩ : ∃ g9 : Nat → Int32, g9 = upd (rf174) ((i160 : Int32).toNatClampNeg) (y178) := ⟨_, rfl⟩
                  have fx186 : V181 (q + 12) = some (.inl (cs 1, 120, .inl (g184))) := by rw [ge185]; exact e182
                  have hf187 := hq_rg hP.1 (hr_12 hR) fx186
                  obtain ⟨rh188, hrh189⟩ : ∃ r9 : hm_Rh, r9 = hm_u2 rh147 12 (i160 : Int32).toNatClampNeg ((y178 : Int32)) := ⟨_, rfl⟩
                  have pk190 : hm_AR cs V181 q rh188 := by rw [hrh189]; exact pk149.put (a := 12) (by decide) (by rw [ge185, hrf175]) fx186 o183
                  have hd191 : hm_Dr rh rh188 := by rw [hrh189]; exact hd150.put (show (i160 : Int32).toNatClampNeg < 60 from hm_lx hi0_160 c85 rfl)
                  have cp192 : hm_C1 0 (1) rh rh188 := by rw [hrh189]; exact hm_C1.ne cp151 (by decide)
                  have cp193 : hm_C1 1 (1) rh rh188 := by rw [hrh189]; exact hm_C1.ne cp152 (by decide)
                  have cp194 : hm_C1 2 (1) rh rh188 := by rw [hrh189]; exact hm_C1.ne cp153 (by decide)
                  have cp195 : hm_C1 8 (30) rh rh188 := by rw [hrh189]; exact hm_C1.ne cp154 (by decide)
                  have cp196 : hm_C1 9 (30) rh rh188 := by rw [hrh189]; exact hm_C1.ne cp155 (by decide)
                  have cp197 : hm_Cb 4 (360) rh rh188 := by rw [hrh189]; exact hm_Cb.ne cp156 (by decide)
                  have cp198 : hm_Cb 5 (480) rh rh188 := by rw [hrh189]; exact hm_Cb.ne cp157 (by decide)
                  have cp199 : hm_Cb 6 (480) rh rh188 := by rw [hrh189]; exact hm_Cb.ne cp158 (by decide)
                  have cp200 : hm_C1 10 ((i160).toNatClampNeg + 1) rh rh188 := by rw [hrh189]; exact hm_C1.ne cp159 (by decide)
                  have cp201 : hm_C1 11 ((i160).toNatClampNeg + 1) rh rh188 := by rw [hrh189]; exact hm_C1.ne cp160 (by decide)
                  have hj203 : (y168 : Int32).toNatClampNeg = 60 + (i160).toNatClampNeg := hm_jx hi0_160 hk171 rfl
                  have cp202 : hm_C1 12 ((i160).toNatClampNeg + 1) rh rh188 := by rw [hrh189]; exact hm_C1.put cp162 (show (i160 : Int32).toNatClampNeg = (i160).toNatClampNeg from rfl) (show y178 = rh 12 (60 + (i160).toNatClampNeg) from by rw [ey179, hrf175, hj203]; exact hd150 12 _ (Nat.le_add_right _ _))
                  have cp204 : hm_C1 13 ((i160).toNatClampNeg) rh rh188 := by rw [hrh189]; exact hm_C1.ne cp163 (by decide)
                  have cp205 : hm_C1 14 ((i160).toNatClampNeg) rh rh188 := by rw [hrh189]; exact hm_C1.ne cp164 (by decide)
                  have cp206 : hm_C1 15 ((i160).toNatClampNeg) rh rh188 := by rw [hrh189]; exact hm_C1.ne cp165 (by decide)
                  have cp207 : hm_C1 16 ((i160).toNatClampNeg) rh rh188 := by rw [hrh189]; exact hm_C1.ne cp166 (by decide)
                  try clear hk171
                  try clear b172
                  try clear b173
                  try clear b180
                  refine lv_aload_n hx hb dX13_become_211 rfl (lv_at hl 1 rfl) ?_
                  have fx208 : V181 (mo) = some (.inr (13, hm_o q (m_tp) (m_sz) (m_fr) (m_bh) (m_hd) (m_ft) (m_fa) (m_le) (m_fo) (m_as) (m_fd) (m_bc) (m_bg) (m_bs) (m_be) (m_b0) (m_b1) (m_cm) (m_hc))) := (o183 (mo) (hq_tne hmo (hr_12 hR) (by simp))).trans (fx167)
                  refine hp_get (v := .ref (q + 13)) hx hb hts hown hZ fx208 fl_X13_38 rfl dX13_become_212 ?_
                  refine lv_iload_n hx hb dX13_become_215 rfl (lv_at hl 0 rfl) ?_
                  refine lv_aload_n hx hb dX13_become_216 rfl (lv_at hl 1 rfl) ?_
                  refine hp_get (v := .ref (q + 13)) hx hb hts hown hZ fx208 fl_X13_38 rfl dX13_become_217 ?_
                  refine lv_bipush (v := 60) hx hb dX13_become_220 (by decide) ?_
                  refine lv_iload_n hx hb dX13_become_222 rfl (lv_at hl 0 rfl) ?_
                  refine lv_iadd hx hb dX13_become_223 ?_
                  refine lv_topi (fun y209 ey210 => ?_)
                  obtain ⟨k211, hk212, b213, b214⟩ := hq_add (60) (i160)
                  rw [← ey210] at hk212 b213 b214
                  have hk212 : (y209).toInt = (60 : Int) + (i160).toInt + k211 * 4294967296 := hk212
                  obtain rfl : k211 = 0 := by omega
                  obtain ⟨rf215, hrf216⟩ : ∃ f : Nat → Int32, f = rh188 13 := ⟨_, rfl⟩
                  have ea217 : V181 (q + 13) = some (.inl (cs 1, 120, .inl (rf215))) := by rw [hrf216]; exact pk190 13 (by decide)
                  have hra218 := hq_rg hP.1 (hr_13 hR) ea217
                  refine hp_iald hx hb hZ ea217 (hq_in (by omega) (by omega)) dX13_become_224 ?_
                  refine lv_topi (fun y219 ey220 => ?_)
                  have b221 := hq_rng y219
                  refine hp_iast hx hb hZ ea217 (hq_in (by omega) (by omega)) dX13_become_225 (fun V222 _ _ e223 o224 hZ => ?_)
                  have e223 : V222 (q + 13) = some (.inl (cs 1, 120, .inl (upd (rf215) ((i160 : Int32).toNatClampNeg) (y219)))) := e223
                  have hP := hP.put (hr_13 hR) e223 o224 (hq_c21 (by omega) (hq_upd hra218 (hq_rng _))) rfl
                  obtain ⟨g225, ge226⟩ : ∃ g9 : Nat → Int32, g9 = upd (rf215) ((i160 : Int32).toNatClampNeg) (y219) := ⟨_, rfl⟩
                  have fx227 : V222 (q + 13) = some (.inl (cs 1, 120, .inl (g225))) := by rw [ge226]; exact e223
                  have hf228 := hq_rg hP.1 (hr_13 hR) fx227
                  obtain ⟨rh229, hrh230⟩ : ∃ r9 : hm_Rh, r9 = hm_u2 rh188 13 (i160 : Int32).toNatClampNeg ((y219 : Int32)) := ⟨_, rfl⟩
                  have pk231 : hm_AR cs V222 q rh229 := by rw [hrh230]; exact pk190.put (a := 13) (by decide) (by rw [ge226, hrf216]) fx227 o224
                  have hd232 : hm_Dr rh rh229 := by rw [hrh230]; exact hd191.put (show (i160 : Int32).toNatClampNeg < 60 from hm_lx hi0_160 c85 rfl)
                  have cp233 : hm_C1 0 (1) rh rh229 := by rw [hrh230]; exact hm_C1.ne cp192 (by decide)
                  have cp234 : hm_C1 1 (1) rh rh229 := by rw [hrh230]; exact hm_C1.ne cp193 (by decide)
                  have cp235 : hm_C1 2 (1) rh rh229 := by rw [hrh230]; exact hm_C1.ne cp194 (by decide)
                  have cp236 : hm_C1 8 (30) rh rh229 := by rw [hrh230]; exact hm_C1.ne cp195 (by decide)
                  have cp237 : hm_C1 9 (30) rh rh229 := by rw [hrh230]; exact hm_C1.ne cp196 (by decide)
                  have cp238 : hm_Cb 4 (360) rh rh229 := by rw [hrh230]; exact hm_Cb.ne cp197 (by decide)
                  have cp239 : hm_Cb 5 (480) rh rh229 := by rw [hrh230]; exact hm_Cb.ne cp198 (by decide)
                  have cp240 : hm_Cb 6 (480) rh rh229 := by rw [hrh230]; exact hm_Cb.ne cp199 (by decide)
                  have cp241 : hm_C1 10 ((i160).toNatClampNeg + 1) rh rh229 := by rw [hrh230]; exact hm_C1.ne cp200 (by decide)
                  have cp242 : hm_C1 11 ((i160).toNatClampNeg + 1) rh rh229 := by rw [hrh230]; exact hm_C1.ne cp201 (by decide)
                  have cp243 : hm_C1 12 ((i160).toNatClampNeg + 1) rh rh229 := by rw [hrh230]; exact hm_C1.ne cp202 (by decide)
                  have hj245 : (y209 : Int32).toNatClampNeg = 60 + (i160).toNatClampNeg := hm_jx hi0_160 hk212 rfl
                  have cp244 : hm_C1 13 ((i160).toNatClampNeg + 1) rh rh229 := by rw [hrh230]; exact hm_C1.put cp204 (show (i160 : Int32).toNatClampNeg = (i160).toNatClampNeg from rfl) (show y219 = rh 13 (60 + (i160).toNatClampNeg) from by rw [ey220, hrf216, hj245]; exact hd191 13 _ (Nat.le_add_right _ _))
                  have cp246 : hm_C1 14 ((i160).toNatClampNeg) rh rh229 := by rw [hrh230]; exact hm_C1.ne cp205 (by decide)
                  have cp247 : hm_C1 15 ((i160).toNatClampNeg) rh rh229 := by rw [hrh230]; exact hm_C1.ne cp206 (by decide)
                  have cp248 : hm_C1 16 ((i160).toNatClampNeg) rh rh229 := by rw [hrh230]; exact hm_C1.ne cp207 (by decide)
                  try clear hk212
                  try clear b213
                  try clear b214
                  try clear b221
                  refine lv_aload_n hx hb dX13_become_226 rfl (lv_at hl 1 rfl) ?_
                  have fx249 : V222 (mo) = some (.inr (13, hm_o q (m_tp) (m_sz) (m_fr) (m_bh) (m_hd) (m_ft) (m_fa) (m_le) (m_fo) (m_as) (m_fd) (m_bc) (m_bg) (m_bs) (m_be) (m_b0) (m_b1) (m_cm) (m_hc))) := (o224 (mo) (hq_tne hmo (hr_13 hR) (by simp))).trans (fx208)
                  refine hp_get (v := .ref (q + 14)) hx hb hts hown hZ fx249 fl_X13_41 rfl dX13_become_227 ?_
                  refine lv_iload_n hx hb dX13_become_230 rfl (lv_at hl 0 rfl) ?_
                  refine lv_aload_n hx hb dX13_become_231 rfl (lv_at hl 1 rfl) ?_
                  refine hp_get (v := .ref (q + 14)) hx hb hts hown hZ fx249 fl_X13_41 rfl dX13_become_232 ?_
                  refine lv_bipush (v := 60) hx hb dX13_become_235 (by decide) ?_
                  refine lv_iload_n hx hb dX13_become_237 rfl (lv_at hl 0 rfl) ?_
                  refine lv_iadd hx hb dX13_become_238 ?_
                  refine lv_topi (fun y250 ey251 => ?_)
                  obtain ⟨k252, hk253, b254, b255⟩ := hq_add (60) (i160)
                  rw [← ey251] at hk253 b254 b255
                  have hk253 : (y250).toInt = (60 : Int) + (i160).toInt + k252 * 4294967296 := hk253
                  obtain rfl : k252 = 0 := by omega
                  obtain ⟨rf256, hrf257⟩ : ∃ f : Nat → Int32, f = rh229 14 := ⟨_, rfl⟩
                  have ea258 : V222 (q + 14) = some (.inl (cs 1, 120, .inl (rf256))) := by rw [hrf257]; exact pk231 14 (by decide)
                  have hra259 := hq_rg hP.1 (hr_14 hR) ea258
                  refine hp_iald hx hb hZ ea258 (hq_in (by omega) (by omega)) dX13_become_239 ?_
                  refine lv_topi (fun y260 ey261 => ?_)
                  have b262 : hq_ir (hq_lo 1) (hq_hi 1) y260 := by rw [ey261]; exact hra259 _ (hq_ix (by omega) (by omega))
                  have b262 : 0 ≤ (y260).toInt ∧ (y260).toInt ≤ 8 := b262
                  refine hp_iast hx hb hZ ea258 (hq_in (by omega) (by omega)) dX13_become_240 (fun V263 _ _ e264 o265 hZ => ?_)
                  have e264 : V263 (q + 14) = some (.inl (cs 1, 120, .inl (upd (rf256) ((i160 : Int32).toNatClampNeg) (y260)))) := e264
                  have hP := hP.put (hr_14 hR) e264 o265 (hq_c21 (by omega) (hq_upd hra259 (show 0 ≤ _ ∧ _ ≤ 8 by constructor <;> omega))) rfl
                  obtain ⟨g266, ge267⟩ : ∃ g9 : Nat → Int32, g9 = upd (rf256) ((i160 : Int32).toNatClampNeg) (y260) := ⟨_, rfl⟩
                  have fx268 : V263 (q + 14) = some (.inl (cs 1, 120, .inl (g266))) := by rw [ge267]; exact e264
                  have hf269 := hq_rg hP.1 (hr_14 hR) fx268
                  obtain ⟨rh270, hrh271⟩ : ∃ r9 : hm_Rh, r9 = hm_u2 rh229 14 (i160 : Int32).toNatClampNeg ((y260 : Int32)) := ⟨_, rfl⟩
                  have pk272 : hm_AR cs V263 q rh270 := by rw [hrh271]; exact pk231.put (a := 14) (by decide) (by rw [ge267, hrf257]) fx268 o265
                  have hd273 : hm_Dr rh rh270 := by rw [hrh271]; exact hd232.put (show (i160 : Int32).toNatClampNeg < 60 from hm_lx hi0_160 c85 rfl)
                  have cp274 : hm_C1 0 (1) rh rh270 := by rw [hrh271]; exact hm_C1.ne cp233 (by decide)
                  have cp275 : hm_C1 1 (1) rh rh270 := by rw [hrh271]; exact hm_C1.ne cp234 (by decide)
                  have cp276 : hm_C1 2 (1) rh rh270 := by rw [hrh271]; exact hm_C1.ne cp235 (by decide)
                  have cp277 : hm_C1 8 (30) rh rh270 := by rw [hrh271]; exact hm_C1.ne cp236 (by decide)
                  have cp278 : hm_C1 9 (30) rh rh270 := by rw [hrh271]; exact hm_C1.ne cp237 (by decide)
                  have cp279 : hm_Cb 4 (360) rh rh270 := by rw [hrh271]; exact hm_Cb.ne cp238 (by decide)
                  have cp280 : hm_Cb 5 (480) rh rh270 := by rw [hrh271]; exact hm_Cb.ne cp239 (by decide)
                  have cp281 : hm_Cb 6 (480) rh rh270 := by rw [hrh271]; exact hm_Cb.ne cp240 (by decide)
                  have cp282 : hm_C1 10 ((i160).toNatClampNeg + 1) rh rh270 := by rw [hrh271]; exact hm_C1.ne cp241 (by decide)
                  have cp283 : hm_C1 11 ((i160).toNatClampNeg + 1) rh rh270 := by rw [hrh271]; exact hm_C1.ne cp242 (by decide)
                  have cp284 : hm_C1 12 ((i160).toNatClampNeg + 1) rh rh270 := by rw [hrh271]; exact hm_C1.ne cp243 (by decide)
                  have cp285 : hm_C1 13 ((i160).toNatClampNeg + 1) rh rh270 := by rw [hrh271]; exact hm_C1.ne cp244 (by decide)
                  have hj287 : (y250 : Int32).toNatClampNeg = 60 + (i160).toNatClampNeg := hm_jx hi0_160 hk253 rfl
                  have cp286 : hm_C1 14 ((i160).toNatClampNeg + 1) rh rh270 := by rw [hrh271]; exact hm_C1.put cp246 (show (i160 : Int32).toNatClampNeg = (i160).toNatClampNeg from rfl) (show y260 = rh 14 (60 + (i160).toNatClampNeg) from by rw [ey261, hrf257, hj287]; exact hd232 14 _ (Nat.le_add_right _ _))
                  have cp288 : hm_C1 15 ((i160).toNatClampNeg) rh rh270 := by rw [hrh271]; exact hm_C1.ne cp247 (by decide)
                  have cp289 : hm_C1 16 ((i160).toNatClampNeg) rh rh270 := by rw [hrh271]; exact hm_C1.ne cp248 (by decide)
                  try clear hk253
                  try clear b254
                  try clear b255
                  try clear b262
                  refine lv_aload_n hx hb dX13_become_241 rfl (lv_at hl 1 rfl) ?_
                  have fx290 : V263 (mo) = some (.inr (13, hm_o q (m_tp) (m_sz) (m_fr) (m_bh) (m_hd) (m_ft) (m_fa) (m_le) (m_fo) (m_as) (m_fd) (m_bc) (m_bg) (m_bs) (m_be) (m_b0) (m_b1) (m_cm) (m_hc))) := (o265 (mo) (hq_tne hmo (hr_14 hR) (by simp))).trans (fx249)
                  refine hp_get (v := .ref (q + 15)) hx hb hts hown hZ fx290 fl_X13_44 rfl dX13_become_242 ?_
                  refine lv_iload_n hx hb dX13_become_245 rfl (lv_at hl 0 rfl) ?_
                  refine lv_aload_n hx hb dX13_become_246 rfl (lv_at hl 1 rfl) ?_
                  refine hp_get (v := .ref (q + 15)) hx hb hts hown hZ fx290 fl_X13_44 rfl dX13_become_247 ?_
                  refine lv_bipush (v := 60) hx hb dX13_become_250 (by decide) ?_
                  refine lv_iload_n hx hb dX13_become_252 rfl (lv_at hl 0 rfl) ?_
                  refine lv_iadd hx hb dX13_become_253 ?_
                  refine lv_topi (fun y291 ey292 => ?_)
                  obtain ⟨k293, hk294, b295, b296⟩ := hq_add (60) (i160)
                  rw [← ey292] at hk294 b295 b296
                  have hk294 : (y291).toInt = (60 : Int) + (i160).toInt + k293 * 4294967296 := hk294
                  obtain rfl : k293 = 0 := by omega
                  obtain ⟨rf297, hrf298⟩ : ∃ f : Nat → Int32, f = rh270 15 := ⟨_, rfl⟩
                  have ea299 : V263 (q + 15) = some (.inl (cs 1, 120, .inl (rf297))) := by rw [hrf298]; exact pk272 15 (by decide)
                  have hra300 := hq_rg hP.1 (hr_15 hR) ea299
                  refine hp_iald hx hb hZ ea299 (hq_in (by omega) (by omega)) dX13_become_254 ?_
                  refine lv_topi (fun y301 ey302 => ?_)
                  have b303 : hq_ir (hq_lo 1) (hq_hi 1) y301 := by rw [ey302]; exact hra300 _ (hq_ix (by omega) (by omega))
                  have b303 : 0 ≤ (y301).toInt ∧ (y301).toInt ≤ 8 := b303
                  refine hp_iast hx hb hZ ea299 (hq_in (by omega) (by omega)) dX13_become_255 (fun V304 _ _ e305 o306 hZ => ?_)
                  have e305 : V304 (q + 15) = some (.inl (cs 1, 120, .inl (upd (rf297) ((i160 : Int32).toNatClampNeg) (y301)))) := e305
                  have hP := hP.put (hr_15 hR) e305 o306 (hq_c21 (by omega) (hq_upd hra300 (show 0 ≤ _ ∧ _ ≤ 8 by constructor <;> omega))) rfl
                  obtain ⟨g307, ge308⟩ : ∃ g9 : Nat → Int32, g9 = upd (rf297) ((i160 : Int32).toNatClampNeg) (y301) := ⟨_, rfl⟩
                  have fx309 : V304 (q + 15) = some (.inl (cs 1, 120, .inl (g307))) := by rw [ge308]; exact e305
                  have hf310 := hq_rg hP.1 (hr_15 hR) fx309
                  obtain ⟨rh311, hrh312⟩ : ∃ r9 : hm_Rh, r9 = hm_u2 rh270 15 (i160 : Int32).toNatClampNeg ((y301 : Int32)) := ⟨_, rfl⟩
                  have pk313 : hm_AR cs V304 q rh311 := by rw [hrh312]; exact pk272.put (a := 15) (by decide) (by rw [ge308, hrf298]) fx309 o306
                  have hd314 : hm_Dr rh rh311 := by rw [hrh312]; exact hd273.put (show (i160 : Int32).toNatClampNeg < 60 from hm_lx hi0_160 c85 rfl)
                  have cp315 : hm_C1 0 (1) rh rh311 := by rw [hrh312]; exact hm_C1.ne cp274 (by decide)
                  have cp316 : hm_C1 1 (1) rh rh311 := by rw [hrh312]; exact hm_C1.ne cp275 (by decide)
                  have cp317 : hm_C1 2 (1) rh rh311 := by rw [hrh312]; exact hm_C1.ne cp276 (by decide)
                  have cp318 : hm_C1 8 (30) rh rh311 := by rw [hrh312]; exact hm_C1.ne cp277 (by decide)
                  have cp319 : hm_C1 9 (30) rh rh311 := by rw [hrh312]; exact hm_C1.ne cp278 (by decide)
                  have cp320 : hm_Cb 4 (360) rh rh311 := by rw [hrh312]; exact hm_Cb.ne cp279 (by decide)
                  have cp321 : hm_Cb 5 (480) rh rh311 := by rw [hrh312]; exact hm_Cb.ne cp280 (by decide)
                  have cp322 : hm_Cb 6 (480) rh rh311 := by rw [hrh312]; exact hm_Cb.ne cp281 (by decide)
                  have cp323 : hm_C1 10 ((i160).toNatClampNeg + 1) rh rh311 := by rw [hrh312]; exact hm_C1.ne cp282 (by decide)
                  have cp324 : hm_C1 11 ((i160).toNatClampNeg + 1) rh rh311 := by rw [hrh312]; exact hm_C1.ne cp283 (by decide)
                  have cp325 : hm_C1 12 ((i160).toNatClampNeg + 1) rh rh311 := by rw [hrh312]; exact hm_C1.ne cp284 (by decide)
                  have cp326 : hm_C1 13 ((i160).toNatClampNeg + 1) rh rh311 := by rw [hrh312]; exact hm_C1.ne cp285 (by decide)
                  have cp327 : hm_C1 14 ((i160).toNatClampNeg + 1) rh rh311 := by rw [hrh312]; exact hm_C1.ne cp286 (by decide)
                  have hj329 : (y291 : Int32).toNatClampNeg = 60 + (i160).toNatClampNeg := hm_jx hi0_160 hk294 rfl
                  have cp328 : hm_C1 15 ((i160).toNatClampNeg + 1) rh rh311 := by rw [hrh312]; exact hm_C1.put cp288 (show (i160 : Int32).toNatClampNeg = (i160).toNatClampNeg from rfl) (show y301 = rh 15 (60 + (i160).toNatClampNeg) from by rw [ey302, hrf298, hj329]; exact hd273 15 _ (Nat.le_add_right _ _))
                  have cp330 : hm_C1 16 ((i160).toNatClampNeg) rh rh311 := by rw [hrh312]; exact hm_C1.ne cp289 (by decide)
                  try clear hk294
                  try clear b295
                  try clear b296
                  try clear b303
                  refine lv_aload_n hx hb dX13_become_256 rfl (lv_at hl 1 rfl) ?_
                  have fx331 : V304 (mo) = some (.inr (13, hm_o q (m_tp) (m_sz) (m_fr) (m_bh) (m_hd) (m_ft) (m_fa) (m_le) (m_fo) (m_as) (m_fd) (m_bc) (m_bg) (m_bs) (m_be) (m_b0) (m_b1) (m_cm) (m_hc))) := (o306 (mo) (hq_tne hmo (hr_15 hR) (by simp))).trans (fx290)
                  refine hp_get (v := .ref (q + 16)) hx hb hts hown hZ fx331 fl_X13_47 rfl dX13_become_257 ?_
                  refine lv_iload_n hx hb dX13_become_260 rfl (lv_at hl 0 rfl) ?_
                  refine lv_aload_n hx hb dX13_become_261 rfl (lv_at hl 1 rfl) ?_
                  refine hp_get (v := .ref (q + 16)) hx hb hts hown hZ fx331 fl_X13_47 rfl dX13_become_262 ?_
                  refine lv_bipush (v := 60) hx hb dX13_become_265 (by decide) ?_
                  refine lv_iload_n hx hb dX13_become_267 rfl (lv_at hl 0 rfl) ?_
                  refine lv_iadd hx hb dX13_become_268 ?_
                  refine lv_topi (fun y332 ey333 => ?_)
                  obtain ⟨k334, hk335, b336, b337⟩ := hq_add (60) (i160)
                  rw [← ey333] at hk335 b336 b337
                  have hk335 : (y332).toInt = (60 : Int) + (i160).toInt + k334 * 4294967296 := hk335
                  obtain rfl : k334 = 0 := by omega
                  obtain ⟨rf338, hrf339⟩ : ∃ f : Nat → Int32, f = rh311 16 := ⟨_, rfl⟩
                  have ea340 : V304 (q + 16) = some (.inl (cs 1, 120, .inl (rf338))) := by rw [hrf339]; exact pk313 16 (by decide)
                  have hra341 := hq_rg hP.1 (hr_16 hR) ea340
                  refine hp_iald hx hb hZ ea340 (hq_in (by omega) (by omega)) dX13_become_269 ?_
                  refine lv_topi (fun y342 ey343 => ?_)
                  have b344 : hq_ir (hq_lo 3) (hq_hi 3) y342 := by rw [ey343]; exact hra341 _ (hq_ix (by omega) (by omega))
                  have b344 : 0 ≤ (y342).toInt ∧ (y342).toInt ≤ 29 := b344
                  refine hp_iast hx hb hZ ea340 (hq_in (by omega) (by omega)) dX13_become_270 (fun V345 _ _ e346 o347 hZ => ?_)
                  have e346 : V345 (q + 16) = some (.inl (cs 1, 120, .inl (upd (rf338) ((i160 : Int32).toNatClampNeg) (y342)))) := e346
                  have hP := hP.put (hr_16 hR) e346 o347 (hq_c21 (by omega) (hq_upd hra341 (show 0 ≤ _ ∧ _ ≤ 29 by constructor <;> omega))) rfl
                  obtain ⟨g348, ge349⟩ : ∃ g9 : Nat → Int32, g9 = upd (rf338) ((i160 : Int32).toNatClampNeg) (y342) := ⟨_, rfl⟩
                  have fx350 : V345 (q + 16) = some (.inl (cs 1, 120, .inl (g348))) := by rw [ge349]; exact e346
                  have hf351 := hq_rg hP.1 (hr_16 hR) fx350
                  obtain ⟨rh352, hrh353⟩ : ∃ r9 : hm_Rh, r9 = hm_u2 rh311 16 (i160 : Int32).toNatClampNeg ((y342 : Int32)) := ⟨_, rfl⟩
                  have pk354 : hm_AR cs V345 q rh352 := by rw [hrh353]; exact pk313.put (a := 16) (by decide) (by rw [ge349, hrf339]) fx350 o347
                  have hd355 : hm_Dr rh rh352 := by rw [hrh353]; exact hd314.put (show (i160 : Int32).toNatClampNeg < 60 from hm_lx hi0_160 c85 rfl)
                  have cp356 : hm_C1 0 (1) rh rh352 := by rw [hrh353]; exact hm_C1.ne cp315 (by decide)
                  have cp357 : hm_C1 1 (1) rh rh352 := by rw [hrh353]; exact hm_C1.ne cp316 (by decide)
                  have cp358 : hm_C1 2 (1) rh rh352 := by rw [hrh353]; exact hm_C1.ne cp317 (by decide)
                  have cp359 : hm_C1 8 (30) rh rh352 := by rw [hrh353]; exact hm_C1.ne cp318 (by decide)
                  have cp360 : hm_C1 9 (30) rh rh352 := by rw [hrh353]; exact hm_C1.ne cp319 (by decide)
                  have cp361 : hm_Cb 4 (360) rh rh352 := by rw [hrh353]; exact hm_Cb.ne cp320 (by decide)
                  have cp362 : hm_Cb 5 (480) rh rh352 := by rw [hrh353]; exact hm_Cb.ne cp321 (by decide)
                  have cp363 : hm_Cb 6 (480) rh rh352 := by rw [hrh353]; exact hm_Cb.ne cp322 (by decide)
                  have cp364 : hm_C1 10 ((i160).toNatClampNeg + 1) rh rh352 := by rw [hrh353]; exact hm_C1.ne cp323 (by decide)
                  have cp365 : hm_C1 11 ((i160).toNatClampNeg + 1) rh rh352 := by rw [hrh353]; exact hm_C1.ne cp324 (by decide)
                  have cp366 : hm_C1 12 ((i160).toNatClampNeg + 1) rh rh352 := by rw [hrh353]; exact hm_C1.ne cp325 (by decide)
                  have cp367 : hm_C1 13 ((i160).toNatClampNeg + 1) rh rh352 := by rw [hrh353]; exact hm_C1.ne cp326 (by decide)
                  have cp368 : hm_C1 14 ((i160).toNatClampNeg + 1) rh rh352 := by rw [hrh353]; exact hm_C1.ne cp327 (by decide)
                  have cp369 : hm_C1 15 ((i160).toNatClampNeg + 1) rh rh352 := by rw [hrh353]; exact hm_C1.ne cp328 (by decide)
                  have hj371 : (y332 : Int32).toNatClampNeg = 60 + (i160).toNatClampNeg := hm_jx hi0_160 hk335 rfl
                  have cp370 : hm_C1 16 ((i160).toNatClampNeg + 1) rh rh352 := by rw [hrh353]; exact hm_C1.put cp330 (show (i160 : Int32).toNatClampNeg = (i160).toNatClampNeg from rfl) (show y342 = rh 16 (60 + (i160).toNatClampNeg) from by rw [ey343, hrf339, hj371]; exact hd314 16 _ (Nat.le_add_right _ _))
                  try clear hk335
                  try clear b336
                  try clear b337
                  try clear b344
                  refine lv_aload_n hx hb dX13_become_271 rfl (lv_at hl 1 rfl) ?_
                  have fx372 : V345 (mo) = some (.inr (13, hm_o q (m_tp) (m_sz) (m_fr) (m_bh) (m_hd) (m_ft) (m_fa) (m_le) (m_fo) (m_as) (m_fd) (m_bc) (m_bg) (m_bs) (m_be) (m_b0) (m_b1) (m_cm) (m_hc))) := (o347 (mo) (hq_tne hmo (hr_16 hR) (by simp))).trans (fx331)
                  refine hp_get (v := .ref (q + 17)) hx hb hts hown hZ fx372 fl_X13_50 rfl dX13_become_272 ?_
                  refine lv_iload_n hx hb dX13_become_275 rfl (lv_at hl 0 rfl) ?_
                  refine lv_aload_n hx hb dX13_become_276 rfl (lv_at hl 1 rfl) ?_
                  refine hp_get (v := .ref (q + 17)) hx hb hts hown hZ fx372 fl_X13_50 rfl dX13_become_277 ?_
                  refine lv_bipush (v := 60) hx hb dX13_become_280 (by decide) ?_
                  refine lv_iload_n hx hb dX13_become_282 rfl (lv_at hl 0 rfl) ?_
                  refine lv_iadd hx hb dX13_become_283 ?_
                  refine lv_topi (fun y373 ey374 => ?_)
                  obtain ⟨k375, hk376, b377, b378⟩ := hq_add (60) (i160)
                  rw [← ey374] at hk376 b377 b378
                  have hk376 : (y373).toInt = (60 : Int) + (i160).toInt + k375 * 4294967296 := hk376
                  obtain rfl : k375 = 0 := by omega
                  obtain ⟨rf379, hrf380⟩ : ∃ f : Nat → Int32, f = rh352 17 := ⟨_, rfl⟩
                  have ea381 : V345 (q + 17) = some (.inl (cs 1, 120, .inl (rf379))) := by rw [hrf380]; exact pk354 17 (by decide)
                  have hra382 := hq_rg hP.1 (hr_17 hR) ea381
                  refine hp_iald hx hb hZ ea381 (hq_in (by omega) (by omega)) dX13_become_284 ?_
                  refine lv_topi (fun y383 ey384 => ?_)
                  have b385 := hq_rng y383
                  refine hp_iast hx hb hZ ea381 (hq_in (by omega) (by omega)) dX13_become_285 (fun V386 _ _ e387 o388 hZ => ?_)
                  have e387 : V386 (q + 17) = some (.inl (cs 1, 120, .inl (upd (rf379) ((i160 : Int32).toNatClampNeg) (y383)))) := e387
                  have hP := hP.put (hr_17 hR) e387 o388 (hq_c21 (by omega) (hq_upd hra382 (hq_rng _))) rfl
                  obtain ⟨g389, ge390⟩ : ∃ g9 : Nat → Int32, g9 = upd (rf379) ((i160 : Int32).toNatClampNeg) (y383) := ⟨_, rfl⟩
                  have fx391 : V386 (q + 17) = some (.inl (cs 1, 120, .inl (g389))) := by rw [ge390]; exact e387
                  have hf392 := hq_rg hP.1 (hr_17 hR) fx391
                  obtain ⟨rh393, hrh394⟩ : ∃ r9 : hm_Rh, r9 = hm_u2 rh352 17 (i160 : Int32).toNatClampNeg ((y383 : Int32)) := ⟨_, rfl⟩
                  have pk395 : hm_AR cs V386 q rh393 := by rw [hrh394]; exact pk354.put (a := 17) (by decide) (by rw [ge390, hrf380]) fx391 o388
                  have hd396 : hm_Dr rh rh393 := by rw [hrh394]; exact hd355.put (show (i160 : Int32).toNatClampNeg < 60 from hm_lx hi0_160 c85 rfl)
                  have cp397 : hm_C1 0 (1) rh rh393 := by rw [hrh394]; exact hm_C1.ne cp356 (by decide)
                  have cp398 : hm_C1 1 (1) rh rh393 := by rw [hrh394]; exact hm_C1.ne cp357 (by decide)
                  have cp399 : hm_C1 2 (1) rh rh393 := by rw [hrh394]; exact hm_C1.ne cp358 (by decide)
                  have cp400 : hm_C1 8 (30) rh rh393 := by rw [hrh394]; exact hm_C1.ne cp359 (by decide)
                  have cp401 : hm_C1 9 (30) rh rh393 := by rw [hrh394]; exact hm_C1.ne cp360 (by decide)
                  have cp402 : hm_Cb 4 (360) rh rh393 := by rw [hrh394]; exact hm_Cb.ne cp361 (by decide)
                  have cp403 : hm_Cb 5 (480) rh rh393 := by rw [hrh394]; exact hm_Cb.ne cp362 (by decide)
                  have cp404 : hm_Cb 6 (480) rh rh393 := by rw [hrh394]; exact hm_Cb.ne cp363 (by decide)
                  have cp405 : hm_C1 10 ((i160).toNatClampNeg + 1) rh rh393 := by rw [hrh394]; exact hm_C1.ne cp364 (by decide)
                  have cp406 : hm_C1 11 ((i160).toNatClampNeg + 1) rh rh393 := by rw [hrh394]; exact hm_C1.ne cp365 (by decide)
                  have cp407 : hm_C1 12 ((i160).toNatClampNeg + 1) rh rh393 := by rw [hrh394]; exact hm_C1.ne cp366 (by decide)
                  have cp408 : hm_C1 13 ((i160).toNatClampNeg + 1) rh rh393 := by rw [hrh394]; exact hm_C1.ne cp367 (by decide)
                  have cp409 : hm_C1 14 ((i160).toNatClampNeg + 1) rh rh393 := by rw [hrh394]; exact hm_C1.ne cp368 (by decide)
                  have cp410 : hm_C1 15 ((i160).toNatClampNeg + 1) rh rh393 := by rw [hrh394]; exact hm_C1.ne cp369 (by decide)
                  have cp411 : hm_C1 16 ((i160).toNatClampNeg + 1) rh rh393 := by rw [hrh394]; exact hm_C1.ne cp370 (by decide)
                  try clear hk376
                  try clear b377
                  try clear b378
                  try clear b385
                  refine lv_aload_n hx hb dX13_become_286 rfl (lv_at hl 1 rfl) ?_
                  have fx412 : V386 (mo) = some (.inr (13, hm_o q (m_tp) (m_sz) (m_fr) (m_bh) (m_hd) (m_ft) (m_fa) (m_le) (m_fo) (m_as) (m_fd) (m_bc) (m_bg) (m_bs) (m_be) (m_b0) (m_b1) (m_cm) (m_hc))) := (o388 (mo) (hq_tne hmo (hr_17 hR) (by simp))).trans (fx372)
                  refine hp_get (v := .ref (q + 18)) hx hb hts hown hZ fx412 fl_X13_53 rfl dX13_become_287 ?_
                  refine lv_iload_n hx hb dX13_become_290 rfl (lv_at hl 0 rfl) ?_
                  refine lv_aload_n hx hb dX13_become_291 rfl (lv_at hl 1 rfl) ?_
                  refine hp_get (v := .ref (q + 18)) hx hb hts hown hZ fx412 fl_X13_53 rfl dX13_become_292 ?_
                  refine lv_bipush (v := 60) hx hb dX13_become_295 (by decide) ?_
                  refine lv_iload_n hx hb dX13_become_297 rfl (lv_at hl 0 rfl) ?_
                  refine lv_iadd hx hb dX13_become_298 ?_
                  refine lv_topi (fun y413 ey414 => ?_)
                  obtain ⟨k415, hk416, b417, b418⟩ := hq_add (60) (i160)
                  rw [← ey414] at hk416 b417 b418
                  have hk416 : (y413).toInt = (60 : Int) + (i160).toInt + k415 * 4294967296 := hk416
                  obtain rfl : k415 = 0 := by omega
                  obtain ⟨rf419, hrf420⟩ : ∃ f : Nat → Int32, f = rh393 18 := ⟨_, rfl⟩
                  have ea421 : V386 (q + 18) = some (.inl (cs 1, 120, .inl (rf419))) := by rw [hrf420]; exact pk395 18 (by decide)
                  have hra422 := hq_rg hP.1 (hr_18 hR) ea421
                  refine hp_iald hx hb hZ ea421 (hq_in (by omega) (by omega)) dX13_become_299 ?_
                  refine lv_topi (fun y423 ey424 => ?_)
                  have b425 := hq_rng y423
                  refine hp_iast hx hb hZ ea421 (hq_in (by omega) (by omega)) dX13_become_300 (fun V426 _ _ e427 o428 hZ => ?_)
                  have e427 : V426 (q + 18) = some (.inl (cs 1, 120, .inl (upd (rf419) ((i160 : Int32).toNatClampNeg) (y423)))) := e427
                  have hP := hP.put (hr_18 hR) e427 o428 (hq_c21 (by omega) (hq_upd hra422 (hq_rng _))) rfl
                  obtain ⟨g429, ge430⟩ : ∃ g9 : Nat → Int32, g9 = upd (rf419) ((i160 : Int32).toNatClampNeg) (y423) := ⟨_, rfl⟩
                  have fx431 : V426 (q + 18) = some (.inl (cs 1, 120, .inl (g429))) := by rw [ge430]; exact e427
                  have hf432 := hq_rg hP.1 (hr_18 hR) fx431
                  obtain ⟨rh433, hrh434⟩ : ∃ r9 : hm_Rh, r9 = hm_u2 rh393 18 (i160 : Int32).toNatClampNeg ((y423 : Int32)) := ⟨_, rfl⟩
                  have pk435 : hm_AR cs V426 q rh433 := by rw [hrh434]; exact pk395.put (a := 18) (by decide) (by rw [ge430, hrf420]) fx431 o428
                  have hd436 : hm_Dr rh rh433 := by rw [hrh434]; exact hd396.put (show (i160 : Int32).toNatClampNeg < 60 from hm_lx hi0_160 c85 rfl)
                  have cp437 : hm_C1 0 (1) rh rh433 := by rw [hrh434]; exact hm_C1.ne cp397 (by decide)
                  have cp438 : hm_C1 1 (1) rh rh433 := by rw [hrh434]; exact hm_C1.ne cp398 (by decide)
                  have cp439 : hm_C1 2 (1) rh rh433 := by rw [hrh434]; exact hm_C1.ne cp399 (by decide)
                  have cp440 : hm_C1 8 (30) rh rh433 := by rw [hrh434]; exact hm_C1.ne cp400 (by decide)
                  have cp441 : hm_C1 9 (30) rh rh433 := by rw [hrh434]; exact hm_C1.ne cp401 (by decide)
                  have cp442 : hm_Cb 4 (360) rh rh433 := by rw [hrh434]; exact hm_Cb.ne cp402 (by decide)
                  have cp443 : hm_Cb 5 (480) rh rh433 := by rw [hrh434]; exact hm_Cb.ne cp403 (by decide)
                  have cp444 : hm_Cb 6 (480) rh rh433 := by rw [hrh434]; exact hm_Cb.ne cp404 (by decide)
                  have cp445 : hm_C1 10 ((i160).toNatClampNeg + 1) rh rh433 := by rw [hrh434]; exact hm_C1.ne cp405 (by decide)
                  have cp446 : hm_C1 11 ((i160).toNatClampNeg + 1) rh rh433 := by rw [hrh434]; exact hm_C1.ne cp406 (by decide)
                  have cp447 : hm_C1 12 ((i160).toNatClampNeg + 1) rh rh433 := by rw [hrh434]; exact hm_C1.ne cp407 (by decide)
                  have cp448 : hm_C1 13 ((i160).toNatClampNeg + 1) rh rh433 := by rw [hrh434]; exact hm_C1.ne cp408 (by decide)
                  have cp449 : hm_C1 14 ((i160).toNatClampNeg + 1) rh rh433 := by rw [hrh434]; exact hm_C1.ne cp409 (by decide)
                  have cp450 : hm_C1 15 ((i160).toNatClampNeg + 1) rh rh433 := by rw [hrh434]; exact hm_C1.ne cp410 (by decide)
                  have cp451 : hm_C1 16 ((i160).toNatClampNeg + 1) rh rh433 := by rw [hrh434]; exact hm_C1.ne cp411 (by decide)
                  try clear hk416
                  try clear b417
                  try clear b418
                  try clear b425
                  obtain ⟨y452, ey453⟩ : ∃ y : Int32, y = i160 + (1) := ⟨_, rfl⟩
                  obtain ⟨k454, hk455, b456, b457⟩ := hq_add (i160) (1)
                  rw [← ey453] at hk455 b456 b457
                  have hk455 : (y452).toInt = (i160).toInt + (1) + k454 * 4294967296 := hk455
                  obtain rfl : k454 = 0 := by omega
                  refine lv_iinc (v := y452) (lv' := [(1, .int (y452)), (0, .ref (mo))]) hx hb dX13_become_301 hl (k := 0) rfl (by rw [ey453]; rfl) (by decide) rfl (fun ls hl => ?_)
                  refine lv_goto (tgt := 160) hx hb dX13_become_304 (by decide) ?_
                  have fx458 : V426 (mo) = some (.inr (13, hm_o q (m_tp) (m_sz) (m_fr) (m_bh) (m_hd) (m_ft) (m_fa) (m_le) (m_fo) (m_as) (m_fd) (m_bc) (m_bg) (m_bs) (m_be) (m_b0) (m_b1) (m_cm) (m_hc))) := (o428 (mo) (hq_tne hmo (hr_18 hR) (by simp))).trans (fx412)
                  exact ih160 _ (by omega) _ _ _ ls (y452) (rh433) rfl hZ hP fx458 (fun x8 hne0 => (o428 x8 (by omega)).trans ((o388 x8 (by omega)).trans ((o347 x8 (by omega)).trans ((o306 x8 (by omega)).trans ((o265 x8 (by omega)).trans ((o224 x8 (by omega)).trans ((o183 x8 (by omega)).trans ((o142 x8 (by omega)).trans ((o101 x8 (by omega)).trans (fr160 x8 hne0)))))))))) pk435 (by omega) (by omega) (hd436) (cp437) (cp438) (cp439) (cp440) (cp441) (cp442) (cp443) (cp444) (cp445.le (hm_sx hi0_160 hk455)) (cp446.le (hm_sx hi0_160 hk455)) (cp447.le (hm_sx hi0_160 hk455)) (cp448.le (hm_sx hi0_160 hk455)) (cp449.le (hm_sx hi0_160 hk455)) (cp450.le (hm_sx hi0_160 hk455)) (cp451.le (hm_sx hi0_160 hk455)) (lv_sub hl [0, 1] rfl)
            · have c81 : ¬ (480 : Int) ≤ (i113).toInt := fun h9 => c81 (hq_lei.mpr h9)
              refine lv_aload_n hx hb dX13_become_120 rfl (lv_at hl 1 rfl) ?_
              refine hp_get (v := .ref (q + 5)) hx hb hts hown hZ ho78 fl_X13_23 rfl dX13_become_121 ?_
              refine lv_iload_n hx hb dX13_become_124 rfl (lv_at hl 0 rfl) ?_
              refine lv_aload_n hx hb dX13_become_125 rfl (lv_at hl 1 rfl) ?_
              refine hp_get (v := .ref (q + 5)) hx hb hts hown hZ ho78 fl_X13_23 rfl dX13_become_126 ?_
              refine lv_sipush (v := 480) hx hb dX13_become_129 (by decide) ?_
              refine lv_iload_n hx hb dX13_become_132 rfl (lv_at hl 0 rfl) ?_
              refine lv_iadd hx hb dX13_become_133 ?_
              refine lv_topi (fun y459 ey460 => ?_)
              obtain ⟨k461, hk462, b463, b464⟩ := hq_add (480) (i113)
              rw [← ey460] at hk462 b463 b464
              have hk462 : (y459).toInt = (480 : Int) + (i113).toInt + k461 * 4294967296 := hk462
              obtain rfl : k461 = 0 := by omega
              obtain ⟨rf465, hrf466⟩ : ∃ f : Nat → Int32, f = rh113x 5 := ⟨_, rfl⟩
              have ea467 : V9 (q + 5) = some (.inl (cs 0, 960, .inl (rf465))) := by rw [hrf466]; exact pk79 5 (by decide)
              refine hp_bald hx hb hZ ea467 (hq_in (by omega) (by omega)) dX13_become_134 ?_
              refine lv_topi (fun y469 ey470 => ?_)
              have b471 := hq_rng y469
              refine hp_bast hx hb hZ ea467 (hq_in (by omega) (by omega)) dX13_become_135 (fun V472 _ _ e473 o474 hZ => ?_)
              have e473 : V472 (q + 5) = some (.inl (cs 0, 960, .inl (upd (rf465) ((i113 : Int32).toNatClampNeg) ((y469 : Int32).toInt8.toInt32)))) := e473
              have hP := hP.put (hr_5 hR) e473 o474 (hq_c20 (by omega)) rfl
              obtain ⟨g475, ge476⟩ : ∃ g9 : Nat → Int32, g9 = upd (rf465) ((i113 : Int32).toNatClampNeg) ((y469 : Int32).toInt8.toInt32) := ⟨_, rfl⟩
              have fx477 : V472 (q + 5) = some (.inl (cs 0, 960, .inl (g475))) := by rw [ge476]; exact e473
              have hf478 := hq_rg20 hP.1 (hr_5 hR) fx477
              obtain ⟨rh479, hrh480⟩ : ∃ r9 : hm_Rh, r9 = hm_u2 rh113x 5 (i113 : Int32).toNatClampNeg ((y469 : Int32).toInt8.toInt32) := ⟨_, rfl⟩
              have pk481 : hm_AR cs V472 q rh479 := by rw [hrh480]; exact pk79.put (a := 5) (by decide) (by rw [ge476, hrf466]) fx477 o474
              have hd482 : hm_Dr rh rh479 := by rw [hrh480]; exact hdr113.put (show (i113 : Int32).toNatClampNeg < 480 from hm_lx hi0_113 c81 rfl)
              have cp483 : hm_C1 0 (1) rh rh479 := by rw [hrh480]; exact hm_C1.ne hc0_113 (by decide)
              have cp484 : hm_C1 1 (1) rh rh479 := by rw [hrh480]; exact hm_C1.ne hc1_113 (by decide)
              have cp485 : hm_C1 2 (1) rh rh479 := by rw [hrh480]; exact hm_C1.ne hc2_113 (by decide)
              have cp486 : hm_C1 8 (30) rh rh479 := by rw [hrh480]; exact hm_C1.ne hc8_113 (by decide)
              have cp487 : hm_C1 9 (30) rh rh479 := by rw [hrh480]; exact hm_C1.ne hc9_113 (by decide)
              have cp488 : hm_Cb 4 (360) rh rh479 := by rw [hrh480]; exact hm_Cb.ne hc4_113 (by decide)
              have hj490 : (y459 : Int32).toNatClampNeg = 480 + (i113).toNatClampNeg := hm_jx hi0_113 hk462 rfl
              have cp489 : hm_Cb 5 ((i113).toNatClampNeg + 1) rh rh479 := by rw [hrh480]; exact hm_Cb.put hc5_113 (show (i113 : Int32).toNatClampNeg = (i113).toNatClampNeg from rfl) (by rw [show y469 = rh 5 (480 + (i113).toNatClampNeg) from by rw [ey470, hrf466, hj490]; exact hdr113 5 _ (Nat.le_add_right _ _)]; rfl)
              have cp491 : hm_Cb 6 ((i113).toNatClampNeg) rh rh479 := by rw [hrh480]; exact hm_Cb.ne hc6_113 (by decide)
              try clear hk462
              try clear b463
              try clear b464
              try clear b471
              refine lv_aload_n hx hb dX13_become_136 rfl (lv_at hl 1 rfl) ?_
              have fx492 : V472 (mo) = some (.inr (13, hm_o q (m_tp) (m_sz) (m_fr) (m_bh) (m_hd) (m_ft) (m_fa) (m_le) (m_fo) (m_as) (m_fd) (m_bc) (m_bg) (m_bs) (m_be) (m_b0) (m_b1) (m_cm) (m_hc))) := (o474 (mo) (hq_tne hmo (hr_5 hR) (by simp))).trans (ho78)
              refine hp_get (v := .ref (q + 6)) hx hb hts hown hZ fx492 fl_X13_26 rfl dX13_become_137 ?_
              refine lv_iload_n hx hb dX13_become_140 rfl (lv_at hl 0 rfl) ?_
              refine lv_aload_n hx hb dX13_become_141 rfl (lv_at hl 1 rfl) ?_
              refine hp_get (v := .ref (q + 6)) hx hb hts hown hZ fx492 fl_X13_26 rfl dX13_become_142 ?_
              refine lv_sipush (v := 480) hx hb dX13_become_145 (by decide) ?_
              refine lv_iload_n hx hb dX13_become_148 rfl (lv_at hl 0 rfl) ?_
              refine lv_iadd hx hb dX13_become_149 ?_
              refine lv_topi (fun y493 ey494 => ?_)
              obtain ⟨k495, hk496, b497, b498⟩ := hq_add (480) (i113)
              rw [← ey494] at hk496 b497 b498
              have hk496 : (y493).toInt = (480 : Int) + (i113).toInt + k495 * 4294967296 := hk496
              obtain rfl : k495 = 0 := by omega
              obtain ⟨rf499, hrf500⟩ : ∃ f : Nat → Int32, f = rh479 6 := ⟨_, rfl⟩
              have ea501 : V472 (q + 6) = some (.inl (cs 0, 960, .inl (rf499))) := by rw [hrf500]; exact pk481 6 (by decide)
              refine hp_bald hx hb hZ ea501 (hq_in (by omega) (by omega)) dX13_become_150 ?_
              refine lv_topi (fun y503 ey504 => ?_)
              have b505 := hq_rng y503
              refine hp_bast hx hb hZ ea501 (hq_in (by omega) (by omega)) dX13_become_151 (fun V506 _ _ e507 o508 hZ => ?_)
              have e507 : V506 (q + 6) = some (.inl (cs 0, 960, .inl (upd (rf499) ((i113 : Int32).toNatClampNeg) ((y503 : Int32).toInt8.toInt32)))) := e507
              have hP := hP.put (hr_6 hR) e507 o508 (hq_c20 (by omega)) rfl
              obtain ⟨g509, ge510⟩ : ∃ g9 : Nat → Int32, g9 = upd (rf499) ((i113 : Int32).toNatClampNeg) ((y503 : Int32).toInt8.toInt32) := ⟨_, rfl⟩
              have fx511 : V506 (q + 6) = some (.inl (cs 0, 960, .inl (g509))) := by rw [ge510]; exact e507
              have hf512 := hq_rg20 hP.1 (hr_6 hR) fx511
              obtain ⟨rh513, hrh514⟩ : ∃ r9 : hm_Rh, r9 = hm_u2 rh479 6 (i113 : Int32).toNatClampNeg ((y503 : Int32).toInt8.toInt32) := ⟨_, rfl⟩
              have pk515 : hm_AR cs V506 q rh513 := by rw [hrh514]; exact pk481.put (a := 6) (by decide) (by rw [ge510, hrf500]) fx511 o508
              have hd516 : hm_Dr rh rh513 := by rw [hrh514]; exact hd482.put (show (i113 : Int32).toNatClampNeg < 480 from hm_lx hi0_113 c81 rfl)
              have cp517 : hm_C1 0 (1) rh rh513 := by rw [hrh514]; exact hm_C1.ne cp483 (by decide)
              have cp518 : hm_C1 1 (1) rh rh513 := by rw [hrh514]; exact hm_C1.ne cp484 (by decide)
              have cp519 : hm_C1 2 (1) rh rh513 := by rw [hrh514]; exact hm_C1.ne cp485 (by decide)
              have cp520 : hm_C1 8 (30) rh rh513 := by rw [hrh514]; exact hm_C1.ne cp486 (by decide)
              have cp521 : hm_C1 9 (30) rh rh513 := by rw [hrh514]; exact hm_C1.ne cp487 (by decide)
              have cp522 : hm_Cb 4 (360) rh rh513 := by rw [hrh514]; exact hm_Cb.ne cp488 (by decide)
              have cp523 : hm_Cb 5 ((i113).toNatClampNeg + 1) rh rh513 := by rw [hrh514]; exact hm_Cb.ne cp489 (by decide)
              have hj525 : (y493 : Int32).toNatClampNeg = 480 + (i113).toNatClampNeg := hm_jx hi0_113 hk496 rfl
              have cp524 : hm_Cb 6 ((i113).toNatClampNeg + 1) rh rh513 := by rw [hrh514]; exact hm_Cb.put cp491 (show (i113 : Int32).toNatClampNeg = (i113).toNatClampNeg from rfl) (by rw [show y503 = rh 6 (480 + (i113).toNatClampNeg) from by rw [ey504, hrf500, hj525]; exact hd482 6 _ (Nat.le_add_right _ _)]; rfl)
              try clear hk496
              try clear b497
              try clear b498
              try clear b505
              obtain ⟨y526, ey527⟩ : ∃ y : Int32, y = i113 + (1) := ⟨_, rfl⟩
              obtain ⟨k528, hk529, b530, b531⟩ := hq_add (i113) (1)
              rw [← ey527] at hk529 b530 b531
              have hk529 : (y526).toInt = (i113).toInt + (1) + k528 * 4294967296 := hk529
              obtain rfl : k528 = 0 := by omega
              refine lv_iinc (v := y526) (lv' := [(1, .int (y526)), (0, .ref (mo))]) hx hb dX13_become_152 hl (k := 0) rfl (by rw [ey527]; rfl) (by decide) rfl (fun ls hl => ?_)
              refine lv_goto (tgt := 113) hx hb dX13_become_155 (by decide) ?_
              have fx532 : V506 (mo) = some (.inr (13, hm_o q (m_tp) (m_sz) (m_fr) (m_bh) (m_hd) (m_ft) (m_fa) (m_le) (m_fo) (m_as) (m_fd) (m_bc) (m_bg) (m_bs) (m_be) (m_b0) (m_b1) (m_cm) (m_hc))) := (o508 (mo) (hq_tne hmo (hr_6 hR) (by simp))).trans (fx492)
              exact ih113 _ (by omega) _ _ _ ls (y526) (rh513) rfl hZ hP fx532 (fun x8 hne0 => (o508 x8 (by omega)).trans ((o474 x8 (by omega)).trans (fr113 x8 hne0))) pk515 (by omega) (by omega) (hd516) (cp517) (cp518) (cp519) (cp520) (cp521) (cp522) (cp523.le (hm_sx hi0_113 hk529)) (cp524.le (hm_sx hi0_113 hk529)) (lv_sub hl [0, 1] rfl)
        · have c77 : ¬ (360 : Int) ≤ (i82).toInt := fun h9 => c77 (hq_lei.mpr h9)
          refine lv_aload_n hx hb dX13_become_89 rfl (lv_at hl 1 rfl) ?_
          refine hp_get (v := .ref (q + 4)) hx hb hts hown hZ ho74 fl_X13_19 rfl dX13_become_90 ?_
          refine lv_iload_n hx hb dX13_become_93 rfl (lv_at hl 0 rfl) ?_
          refine lv_aload_n hx hb dX13_become_94 rfl (lv_at hl 1 rfl) ?_
          refine hp_get (v := .ref (q + 4)) hx hb hts hown hZ ho74 fl_X13_19 rfl dX13_become_95 ?_
          refine lv_sipush (v := 360) hx hb dX13_become_98 (by decide) ?_
          refine lv_iload_n hx hb dX13_become_101 rfl (lv_at hl 0 rfl) ?_
          refine lv_iadd hx hb dX13_become_102 ?_
          refine lv_topi (fun y533 ey534 => ?_)
          obtain ⟨k535, hk536, b537, b538⟩ := hq_add (360) (i82)
          rw [← ey534] at hk536 b537 b538
          have hk536 : (y533).toInt = (360 : Int) + (i82).toInt + k535 * 4294967296 := hk536
          obtain rfl : k535 = 0 := by omega
          obtain ⟨rf539, hrf540⟩ : ∃ f : Nat → Int32, f = rh82x 4 := ⟨_, rfl⟩
          have ea541 : V9 (q + 4) = some (.inl (cs 0, 720, .inl (rf539))) := by rw [hrf540]; exact pk75 4 (by decide)
          refine hp_bald hx hb hZ ea541 (hq_in (by omega) (by omega)) dX13_become_103 ?_
          refine lv_topi (fun y543 ey544 => ?_)
          have b545 := hq_rng y543
          refine hp_bast hx hb hZ ea541 (hq_in (by omega) (by omega)) dX13_become_104 (fun V546 _ _ e547 o548 hZ => ?_)
          have e547 : V546 (q + 4) = some (.inl (cs 0, 720, .inl (upd (rf539) ((i82 : Int32).toNatClampNeg) ((y543 : Int32).toInt8.toInt32)))) := e547
          have hP := hP.put (hr_4 hR) e547 o548 (hq_c20 (by omega)) rfl
          obtain ⟨g549, ge550⟩ : ∃ g9 : Nat → Int32, g9 = upd (rf539) ((i82 : Int32).toNatClampNeg) ((y543 : Int32).toInt8.toInt32) := ⟨_, rfl⟩
          have fx551 : V546 (q + 4) = some (.inl (cs 0, 720, .inl (g549))) := by rw [ge550]; exact e547
          have hf552 := hq_rg20 hP.1 (hr_4 hR) fx551
          obtain ⟨rh553, hrh554⟩ : ∃ r9 : hm_Rh, r9 = hm_u2 rh82x 4 (i82 : Int32).toNatClampNeg ((y543 : Int32).toInt8.toInt32) := ⟨_, rfl⟩
          have pk555 : hm_AR cs V546 q rh553 := by rw [hrh554]; exact pk75.put (a := 4) (by decide) (by rw [ge550, hrf540]) fx551 o548
          have hd556 : hm_Dr rh rh553 := by rw [hrh554]; exact hdr82.put (show (i82 : Int32).toNatClampNeg < 360 from hm_lx hi0_82 c77 rfl)
          have cp557 : hm_C1 0 (1) rh rh553 := by rw [hrh554]; exact hm_C1.ne hc0_82 (by decide)
          have cp558 : hm_C1 1 (1) rh rh553 := by rw [hrh554]; exact hm_C1.ne hc1_82 (by decide)
          have cp559 : hm_C1 2 (1) rh rh553 := by rw [hrh554]; exact hm_C1.ne hc2_82 (by decide)
          have cp560 : hm_C1 8 (30) rh rh553 := by rw [hrh554]; exact hm_C1.ne hc8_82 (by decide)
          have cp561 : hm_C1 9 (30) rh rh553 := by rw [hrh554]; exact hm_C1.ne hc9_82 (by decide)
          have hj563 : (y533 : Int32).toNatClampNeg = 360 + (i82).toNatClampNeg := hm_jx hi0_82 hk536 rfl
          have cp562 : hm_Cb 4 ((i82).toNatClampNeg + 1) rh rh553 := by rw [hrh554]; exact hm_Cb.put hc4_82 (show (i82 : Int32).toNatClampNeg = (i82).toNatClampNeg from rfl) (by rw [show y543 = rh 4 (360 + (i82).toNatClampNeg) from by rw [ey544, hrf540, hj563]; exact hdr82 4 _ (Nat.le_add_right _ _)]; rfl)
          try clear hk536
          try clear b537
          try clear b538
          try clear b545
          obtain ⟨y564, ey565⟩ : ∃ y : Int32, y = i82 + (1) := ⟨_, rfl⟩
          obtain ⟨k566, hk567, b568, b569⟩ := hq_add (i82) (1)
          rw [← ey565] at hk567 b568 b569
          have hk567 : (y564).toInt = (i82).toInt + (1) + k566 * 4294967296 := hk567
          obtain rfl : k566 = 0 := by omega
          refine lv_iinc (v := y564) (lv' := [(1, .int (y564)), (0, .ref (mo))]) hx hb dX13_become_105 hl (k := 0) rfl (by rw [ey565]; rfl) (by decide) rfl (fun ls hl => ?_)
          refine lv_goto (tgt := 82) hx hb dX13_become_108 (by decide) ?_
          have fx570 : V546 (mo) = some (.inr (13, hm_o q (m_tp) (m_sz) (m_fr) (m_bh) (m_hd) (m_ft) (m_fa) (m_le) (m_fo) (m_as) (m_fd) (m_bc) (m_bg) (m_bs) (m_be) (m_b0) (m_b1) (m_cm) (m_hc))) := (o548 (mo) (hq_tne hmo (hr_4 hR) (by simp))).trans (ho74)
          exact ih82 _ (by omega) _ _ _ ls (y564) (rh553) rfl hZ hP fx570 (fun x8 hne0 => (o548 x8 (by omega)).trans (fr82 x8 hne0)) pk555 (by omega) (by omega) (hd556) (cp557) (cp558) (cp559) (cp560) (cp561) (cp562.le (hm_sx hi0_82 hk567)) (lv_sub hl [0, 1] rfl)
    · have c73 : ¬ (30 : Int) ≤ (i38).toInt := fun h9 => c73 (hq_lei.mpr h9)
      refine lv_aload_n hx hb dX13_become_44 rfl (lv_at hl 1 rfl) ?_
      refine hp_get (v := .ref (q + 8)) hx hb hts hown hZ ho70 fl_X13_13 rfl dX13_become_45 ?_
      refine lv_iload_n hx hb dX13_become_48 rfl (lv_at hl 0 rfl) ?_
      refine lv_aload_n hx hb dX13_become_49 rfl (lv_at hl 1 rfl) ?_
      refine hp_get (v := .ref (q + 8)) hx hb hts hown hZ ho70 fl_X13_13 rfl dX13_become_50 ?_
      refine lv_bipush (v := 30) hx hb dX13_become_53 (by decide) ?_
      refine lv_iload_n hx hb dX13_become_55 rfl (lv_at hl 0 rfl) ?_
      refine lv_iadd hx hb dX13_become_56 ?_
      refine lv_topi (fun y571 ey572 => ?_)
      obtain ⟨k573, hk574, b575, b576⟩ := hq_add (30) (i38)
      rw [← ey572] at hk574 b575 b576
      have hk574 : (y571).toInt = (30 : Int) + (i38).toInt + k573 * 4294967296 := hk574
      obtain rfl : k573 = 0 := by omega
      obtain ⟨rf577, hrf578⟩ : ∃ f : Nat → Int32, f = rh38x 8 := ⟨_, rfl⟩
      have ea579 : V9 (q + 8) = some (.inl (cs 1, 60, .inl (rf577))) := by rw [hrf578]; exact pk71 8 (by decide)
      have hra580 := hq_rg hP.1 (hr_8 hR) ea579
      refine hp_iald hx hb hZ ea579 (hq_in (by omega) (by omega)) dX13_become_57 ?_
      refine lv_topi (fun y581 ey582 => ?_)
      have b583 : hq_ir (hq_lo 2) (hq_hi 2) y581 := by rw [ey582]; exact hra580 _ (hq_ix (by omega) (by omega))
      have b583 : 0 ≤ (y581).toInt ∧ (y581).toInt ≤ 12 := b583
      refine hp_iast hx hb hZ ea579 (hq_in (by omega) (by omega)) dX13_become_58 (fun V584 _ _ e585 o586 hZ => ?_)
      have e585 : V584 (q + 8) = some (.inl (cs 1, 60, .inl (upd (rf577) ((i38 : Int32).toNatClampNeg) (y581)))) := e585
      have hP := hP.put (hr_8 hR) e585 o586 (hq_c21 (by omega) (hq_upd hra580 (show 0 ≤ _ ∧ _ ≤ 12 by constructor <;> omega))) rfl
      obtain ⟨g587, ge588⟩ : ∃ g9 : Nat → Int32, g9 = upd (rf577) ((i38 : Int32).toNatClampNeg) (y581) := ⟨_, rfl⟩
      have fx589 : V584 (q + 8) = some (.inl (cs 1, 60, .inl (g587))) := by rw [ge588]; exact e585
      have hf590 := hq_rg hP.1 (hr_8 hR) fx589
      obtain ⟨rh591, hrh592⟩ : ∃ r9 : hm_Rh, r9 = hm_u2 rh38x 8 (i38 : Int32).toNatClampNeg ((y581 : Int32)) := ⟨_, rfl⟩
      have pk593 : hm_AR cs V584 q rh591 := by rw [hrh592]; exact pk71.put (a := 8) (by decide) (by rw [ge588, hrf578]) fx589 o586
      have hd594 : hm_Dr rh rh591 := by rw [hrh592]; exact hdr38.put (show (i38 : Int32).toNatClampNeg < 30 from hm_lx hi0_38 c73 rfl)
      have cp595 : hm_C1 0 (1) rh rh591 := by rw [hrh592]; exact hm_C1.ne hc0_38 (by decide)
      have cp596 : hm_C1 1 (1) rh rh591 := by rw [hrh592]; exact hm_C1.ne hc1_38 (by decide)
      have cp597 : hm_C1 2 (1) rh rh591 := by rw [hrh592]; exact hm_C1.ne hc2_38 (by decide)
      have hj599 : (y571 : Int32).toNatClampNeg = 30 + (i38).toNatClampNeg := hm_jx hi0_38 hk574 rfl
      have cp598 : hm_C1 8 ((i38).toNatClampNeg + 1) rh rh591 := by rw [hrh592]; exact hm_C1.put hc8_38 (show (i38 : Int32).toNatClampNeg = (i38).toNatClampNeg from rfl) (show y581 = rh 8 (30 + (i38).toNatClampNeg) from by rw [ey582, hrf578, hj599]; exact hdr38 8 _ (Nat.le_add_right _ _))
      have cp600 : hm_C1 9 ((i38).toNatClampNeg) rh rh591 := by rw [hrh592]; exact hm_C1.ne hc9_38 (by decide)
      try clear hk574
      try clear b575
      try clear b576
      try clear b583
      refine lv_aload_n hx hb dX13_become_59 rfl (lv_at hl 1 rfl) ?_
      have fx601 : V584 (mo) = some (.inr (13, hm_o q (m_tp) (m_sz) (m_fr) (m_bh) (m_hd) (m_ft) (m_fa) (m_le) (m_fo) (m_as) (m_fd) (m_bc) (m_bg) (m_bs) (m_be) (m_b0) (m_b1) (m_cm) (m_hc))) := (o586 (mo) (hq_tne hmo (hr_8 hR) (by simp))).trans (ho70)
      refine hp_get (v := .ref (q + 9)) hx hb hts hown hZ fx601 fl_X13_16 rfl dX13_become_60 ?_
      refine lv_iload_n hx hb dX13_become_63 rfl (lv_at hl 0 rfl) ?_
      refine lv_aload_n hx hb dX13_become_64 rfl (lv_at hl 1 rfl) ?_
      refine hp_get (v := .ref (q + 9)) hx hb hts hown hZ fx601 fl_X13_16 rfl dX13_become_65 ?_
      refine lv_bipush (v := 30) hx hb dX13_become_68 (by decide) ?_
      refine lv_iload_n hx hb dX13_become_70 rfl (lv_at hl 0 rfl) ?_
      refine lv_iadd hx hb dX13_become_71 ?_
      refine lv_topi (fun y602 ey603 => ?_)
      obtain ⟨k604, hk605, b606, b607⟩ := hq_add (30) (i38)
      rw [← ey603] at hk605 b606 b607
      have hk605 : (y602).toInt = (30 : Int) + (i38).toInt + k604 * 4294967296 := hk605
      obtain rfl : k604 = 0 := by omega
      obtain ⟨rf608, hrf609⟩ : ∃ f : Nat → Int32, f = rh591 9 := ⟨_, rfl⟩
      have ea610 : V584 (q + 9) = some (.inl (cs 1, 60, .inl (rf608))) := by rw [hrf609]; exact pk593 9 (by decide)
      have hra611 := hq_rg hP.1 (hr_9 hR) ea610
      refine hp_iald hx hb hZ ea610 (hq_in (by omega) (by omega)) dX13_become_72 ?_
      refine lv_topi (fun y612 ey613 => ?_)
      have b614 := hq_rng y612
      refine hp_iast hx hb hZ ea610 (hq_in (by omega) (by omega)) dX13_become_73 (fun V615 _ _ e616 o617 hZ => ?_)
      have e616 : V615 (q + 9) = some (.inl (cs 1, 60, .inl (upd (rf608) ((i38 : Int32).toNatClampNeg) (y612)))) := e616
      have hP := hP.put (hr_9 hR) e616 o617 (hq_c21 (by omega) (hq_upd hra611 (hq_rng _))) rfl
      obtain ⟨g618, ge619⟩ : ∃ g9 : Nat → Int32, g9 = upd (rf608) ((i38 : Int32).toNatClampNeg) (y612) := ⟨_, rfl⟩
      have fx620 : V615 (q + 9) = some (.inl (cs 1, 60, .inl (g618))) := by rw [ge619]; exact e616
      have hf621 := hq_rg hP.1 (hr_9 hR) fx620
      obtain ⟨rh622, hrh623⟩ : ∃ r9 : hm_Rh, r9 = hm_u2 rh591 9 (i38 : Int32).toNatClampNeg ((y612 : Int32)) := ⟨_, rfl⟩
      have pk624 : hm_AR cs V615 q rh622 := by rw [hrh623]; exact pk593.put (a := 9) (by decide) (by rw [ge619, hrf609]) fx620 o617
      have hd625 : hm_Dr rh rh622 := by rw [hrh623]; exact hd594.put (show (i38 : Int32).toNatClampNeg < 30 from hm_lx hi0_38 c73 rfl)
      have cp626 : hm_C1 0 (1) rh rh622 := by rw [hrh623]; exact hm_C1.ne cp595 (by decide)
      have cp627 : hm_C1 1 (1) rh rh622 := by rw [hrh623]; exact hm_C1.ne cp596 (by decide)
      have cp628 : hm_C1 2 (1) rh rh622 := by rw [hrh623]; exact hm_C1.ne cp597 (by decide)
      have cp629 : hm_C1 8 ((i38).toNatClampNeg + 1) rh rh622 := by rw [hrh623]; exact hm_C1.ne cp598 (by decide)
      have hj631 : (y602 : Int32).toNatClampNeg = 30 + (i38).toNatClampNeg := hm_jx hi0_38 hk605 rfl
      have cp630 : hm_C1 9 ((i38).toNatClampNeg + 1) rh rh622 := by rw [hrh623]; exact hm_C1.put cp600 (show (i38 : Int32).toNatClampNeg = (i38).toNatClampNeg from rfl) (show y612 = rh 9 (30 + (i38).toNatClampNeg) from by rw [ey613, hrf609, hj631]; exact hd594 9 _ (Nat.le_add_right _ _))
      try clear hk605
      try clear b606
      try clear b607
      try clear b614
      obtain ⟨y632, ey633⟩ : ∃ y : Int32, y = i38 + (1) := ⟨_, rfl⟩
      obtain ⟨k634, hk635, b636, b637⟩ := hq_add (i38) (1)
      rw [← ey633] at hk635 b636 b637
      have hk635 : (y632).toInt = (i38).toInt + (1) + k634 * 4294967296 := hk635
      obtain rfl : k634 = 0 := by omega
      refine lv_iinc (v := y632) (lv' := [(1, .int (y632)), (0, .ref (mo))]) hx hb dX13_become_74 hl (k := 0) rfl (by rw [ey633]; rfl) (by decide) rfl (fun ls hl => ?_)
      refine lv_goto (tgt := 38) hx hb dX13_become_77 (by decide) ?_
      have fx638 : V615 (mo) = some (.inr (13, hm_o q (m_tp) (m_sz) (m_fr) (m_bh) (m_hd) (m_ft) (m_fa) (m_le) (m_fo) (m_as) (m_fd) (m_bc) (m_bg) (m_bs) (m_be) (m_b0) (m_b1) (m_cm) (m_hc))) := (o617 (mo) (hq_tne hmo (hr_9 hR) (by simp))).trans (fx601)
      exact ih38 _ (by omega) _ _ _ ls (y632) (rh622) rfl hZ hP fx638 (fun x8 hne0 => (o617 x8 (by omega)).trans ((o586 x8 (by omega)).trans (fr38 x8 hne0))) pk624 (by omega) (by omega) (hd625) (cp626) (cp627) (cp628) (cp629.le (hm_sx hi0_38 hk635)) (cp630.le (hm_sx hi0_38 hk635)) (lv_sub hl [0, 1] rfl)
